theorem dX5_init_53 : decode cX5_init 53 = .ok (.bipush 40, 2) := by decide +kernel
theorem dX5_init_55 : decode cX5_init 55 = .ok (.newarray .int, 2) := by decide +kernel
theorem dX5_init_57 : decode cX5_init 57 = .ok (.putfield 28, 3) := by decide +kernel
theorem dX5_init_60 : decode cX5_init 60 = .ok (.aload_n 0, 1) := by decide +kernel
theorem dX5_init_61 : decode cX5_init 61 = .ok (.bipush 40, 2) := by decide +kernel
theorem dX5_init_63 : decode cX5_init 63 = .ok (.newarray .int, 2) := by decide +kernel
theorem dX5_init_65 : decode cX5_init 65 = .ok (.putfield 31, 3) := by decide +kernel
theorem dX5_init_68 : decode cX5_init 68 = .ok (.aload_n 0, 1) := by decide +kernel
theorem dX5_init_69 : decode cX5_init 69 = .ok (.iconst 4, 1) := by decide +kernel
theorem dX5_init_70 : decode cX5_init 70 = .ok (.newarray .int, 2) := by decide +kernel
theorem dX5_init_72 : decode cX5_init 72 = .ok (.putfield 34, 3) := by decide +kernel
theorem dX5_init_75 : decode cX5_init 75 = .ok (.aload_n 0, 1) := by decide +kernel
theorem dX5_init_76 : decode cX5_init 76 = .ok (.bipush 90, 2) := by decide +kernel
theorem dX5_init_78 : decode cX5_init 78 = .ok (.newarray .int, 2) := by decide +kernel
theorem dX5_init_80 : decode cX5_init 80 = .ok (.putfield 37, 3) := by decide +kernel
theorem dX5_init_83 : decode cX5_init 83 = .ok (.aload_n 0, 1) := by decide +kernel
theorem dX5_init_84 : decode cX5_init 84 = .ok (.bipush 90, 2) := by decide +kernel
theorem dX5_init_86 : decode cX5_init 86 = .ok (.newarray .int, 2) := by decide +kernel
theorem dX5_init_88 : decode cX5_init 88 = .ok (.putfield 40, 3) := by decide +kernel
theorem dX5_init_91 : decode cX5_init 91 = .ok (.aload_n 0, 1) := by decide +kernel
theorem dX5_init_92 : decode cX5_init 92 = .ok (.bipush 90, 2) := by decide +kernel
theorem dX5_init_94 : decode cX5_init 94 = .ok (.newarray .int, 2) := by decide +kernel
theorem dX5_init_96 : decode cX5_init 96 = .ok (.putfield 43, 3) := by decide +kernel
theorem dX5_init_99 : decode cX5_init 99 = .ok (.aload_n 0, 1) := by decide +kernel
theorem dX5_init_100 : decode cX5_init 100 = .ok (.iconst 3, 1) := by decide +kernel
theorem dX5_init_101 : decode cX5_init 101 = .ok (.newarray .int, 2) := by decide +kernel
theorem dX5_init_103 : decode cX5_init 103 = .ok (.putfield 46, 3) := by decide +kernel
theorem dX5_init_106 : decode cX5_init 106 = .ok (.aload_n 0, 1) := by decide +kernel
theorem dX5_init_107 : decode cX5_init 107 = .ok (.iconst 3, 1) := by decide +kernel
theorem dX5_init_108 : decode cX5_init 108 = .ok (.newarray .int, 2) := by decide +kernel
theorem dX5_init_110 : decode cX5_init 110 = .ok (.putfield 49, 3) := by decide +kernel
theorem dX5_init_113 : decode cX5_init 113 = .ok (.aload_n 0, 1) := by decide +kernel
theorem dX5_init_114 : decode cX5_init 114 = .ok (.iconst 3, 1) := by decide +kernel
theorem dX5_init_115 : decode cX5_init 115 = .ok (.newarray .int, 2) := by decide +kernel
theorem dX5_init_117 : decode cX5_init 117 = .ok (.putfield 52, 3) := by decide +kernel
theorem dX5_init_120 : decode cX5_init 120 = .ok (.aload_n 0, 1) := by decide +kernel
theorem dX5_init_121 : decode cX5_init 121 = .ok (.sipush 9999, 3) := by decide +kernel
theorem dX5_init_124 : decode cX5_init 124 = .ok (.putfield 55, 3) := by decide +kernel
theorem dX5_init_127 : decode cX5_init 127 = .ok (.aload_n 0, 1) := by decide +kernel
theorem dX5_init_128 : decode cX5_init 128 = .ok (.sipush 9999, 3) := by decide +kernel
theorem dX5_init_131 : decode cX5_init 131 = .ok (.putfield 59, 3) := by decide +kernel
theorem dX5_init_134 : decode cX5_init 134 = .ok (.aload_n 0, 1) := by decide +kernel
theorem dX5_init_135 : decode cX5_init 135 = .ok (.sipush 9999, 3) := by decide +kernel
theorem dX5_init_138 : decode cX5_init 138 = .ok (.putfield 62, 3) := by decide +kernel
theorem dX5_init_141 : decode cX5_init 141 = .ok (.aload_n 0, 1) := by decide +kernel
theorem dX5_init_142 : decode cX5_init 142 = .ok (.bipush 120, 2) := by decide +kernel
theorem dX5_init_144 : decode cX5_init 144 = .ok (.newarray .int, 2) := by decide +kernel
theorem dX5_init_146 : decode cX5_init 146 = .ok (.putfield 65, 3) := by decide +kernel
theorem dX5_init_149 : decode cX5_init 149 = .ok (.return_, 1) := by decide +kernel
theorem dX5_thrown_0 : decode cX5_thrown 0 = .ok (.aload_n 0, 1) := by decide +kernel
theorem dX5_thrown_1 : decode cX5_thrown 1 = .ok (.getfield 68, 3) := by decide +kernel
theorem dX5_thrown_4 : decode cX5_thrown 4 = .ok (.ireturn, 1) := by decide +kernel
theorem dX5_outside_0 : decode cX5_outside 0 = .ok (.iload_n 0, 1) := by decide +kernel
theorem dX5_outside_1 : decode cX5_outside 1 = .ok (.iload_n 1, 1) := by decide +kernel
theorem dX5_outside_2 : decode cX5_outside 2 = .ok (.if_icmp .lt 8, 3) := by decide +kernel
theorem dX5_outside_5 : decode cX5_outside 5 = .ok (.iload_n 0, 1) := by decide +kernel
theorem dX5_outside_6 : decode cX5_outside 6 = .ok (.iload_n 2, 1) := by decide +kernel
theorem dX5_outside_7 : decode cX5_outside 7 = .ok (.if_icmp .le 7, 3) := by decide +kernel
theorem dX5_outside_10 : decode cX5_outside 10 = .ok (.iconst 1, 1) := by decide +kernel
theorem dX5_outside_11 : decode cX5_outside 11 = .ok (.goto 4, 3) := by decide +kernel
theorem dX5_outside_14 : decode cX5_outside 14 = .ok (.iconst 0, 1) := by decide +kernel
theorem dX5_outside_15 : decode cX5_outside 15 = .ok (.ireturn, 1) := by decide +kernel
theorem dX5_fails_0 : decode cX5_fails 0 = .ok (.aload_n 0, 1) := by decide +kernel
theorem dX5_fails_1 : decode cX5_fails 1 = .ok (.iload_n 1, 1) := by decide +kernel
theorem dX5_fails_2 : decode cX5_fails 2 = .ok (.ifCond .eq 7, 3) := by decide +kernel
theorem dX5_fails_5 : decode cX5_fails 5 = .ok (.iconst 1, 1) := by decide +kernel
theorem dX5_fails_6 : decode cX5_fails 6 = .ok (.goto 20, 3) := by decide +kernel
theorem dX5_fails_9 : decode cX5_fails 9 = .ok (.iload_n 2, 1) := by decide +kernel
theorem dX5_fails_10 : decode cX5_fails 10 = .ok (.ifCond .eq 7, 3) := by decide +kernel
theorem dX5_fails_13 : decode cX5_fails 13 = .ok (.iconst 2, 1) := by decide +kernel
theorem dX5_fails_14 : decode cX5_fails 14 = .ok (.goto 12, 3) := by decide +kernel
theorem dX5_fails_17 : decode cX5_fails 17 = .ok (.iload_n 3, 1) := by decide +kernel
theorem dX5_fails_18 : decode cX5_fails 18 = .ok (.ifCond .eq 7, 3) := by decide +kernel
theorem dX5_fails_21 : decode cX5_fails 21 = .ok (.iconst 3, 1) := by decide +kernel
theorem dX5_fails_22 : decode cX5_fails 22 = .ok (.goto 4, 3) := by decide +kernel
theorem dX5_fails_25 : decode cX5_fails 25 = .ok (.iconst 0, 1) := by decide +kernel
theorem dX5_fails_26 : decode cX5_fails 26 = .ok (.putfield 68, 3) := by decide +kernel
theorem dX5_fails_29 : decode cX5_fails 29 = .ok (.aload_n 0, 1) := by decide +kernel
theorem dX5_fails_30 : decode cX5_fails 30 = .ok (.getfield 68, 3) := by decide +kernel
theorem dX5_fails_33 : decode cX5_fails 33 = .ok (.ifCond .le 7, 3) := by decide +kernel
theorem dX5_fails_36 : decode cX5_fails 36 = .ok (.iconst 1, 1) := by decide +kernel
theorem dX5_fails_37 : decode cX5_fails 37 = .ok (.goto 4, 3) := by decide +kernel
theorem dX5_fails_40 : decode cX5_fails 40 = .ok (.iconst 0, 1) := by decide +kernel
theorem dX5_fails_41 : decode cX5_fails 41 = .ok (.ireturn, 1) := by decide +kernel
theorem dX5_down_0 : decode cX5_down 0 = .ok (.iload_n 0, 1) := by decide +kernel
theorem dX5_down_1 : decode cX5_down 1 = .ok (.iload_n 1, 1) := by decide +kernel
theorem dX5_down_2 : decode cX5_down 2 = .ok (.idiv, 1) := by decide +kernel
theorem dX5_down_3 : decode cX5_down 3 = .ok (.istore_n 2, 1) := by decide +kernel
theorem dX5_down_4 : decode cX5_down 4 = .ok (.iload_n 0, 1) := by decide +kernel
theorem dX5_down_5 : decode cX5_down 5 = .ok (.iload_n 1, 1) := by decide +kernel
theorem dX5_down_6 : decode cX5_down 6 = .ok (.irem, 1) := by decide +kernel
theorem dX5_down_7 : decode cX5_down 7 = .ok (.ifCond .ge 9, 3) := by decide +kernel
theorem dX5_down_10 : decode cX5_down 10 = .ok (.iload_n 2, 1) := by decide +kernel
theorem dX5_down_11 : decode cX5_down 11 = .ok (.iconst 1, 1) := by decide +kernel
theorem dX5_down_12 : decode cX5_down 12 = .ok (.isub, 1) := by decide +kernel
theorem dX5_down_13 : decode cX5_down 13 = .ok (.goto 4, 3) := by decide +kernel
theorem dX5_down_16 : decode cX5_down 16 = .ok (.iload_n 2, 1) := by decide +kernel
theorem dX5_down_17 : decode cX5_down 17 = .ok (.ireturn, 1) := by decide +kernel
theorem dX5_least_0 : decode cX5_least 0 = .ok (.iload_n 0, 1) := by decide +kernel
theorem dX5_least_1 : decode cX5_least 1 = .ok (.iload_n 1, 1) := by decide +kernel
theorem dX5_least_2 : decode cX5_least 2 = .ok (.if_icmp .ge 7, 3) := by decide +kernel
theorem dX5_least_5 : decode cX5_least 5 = .ok (.iload_n 0, 1) := by decide +kernel
theorem dX5_least_6 : decode cX5_least 6 = .ok (.goto 4, 3) := by decide +kernel
theorem dX5_least_9 : decode cX5_least 9 = .ok (.iload_n 1, 1) := by decide +kernel
theorem dX5_least_10 : decode cX5_least 10 = .ok (.ireturn, 1) := by decide +kernel
set_option maxRecDepth 20000 in
theorem ggX5_row_X5_outside : GoodIn wsX5_row wsX5_outside := goodIn_r _ [7] (by decide +kernel) (by decide +kernel)
set_option maxRecDepth 20000 in
theorem gX5_row_X5_outside : GoodIn wsX5_row (va_wsS RX5 71 yX5_outside wsX5_outside) := goodIn_app (goodIn_of _ (by decide +kernel)) ggX5_row_X5_outside
set_option maxRecDepth 20000 in
theorem ggX5_row_X5_fails : GoodIn wsX5_row wsX5_fails := goodIn_r _ [11, 12, 13, 14, 15, 16, 17, 18, 19, 20, 21, 22, 23, 24, 25, 26, 27, 28, 29, 30, 31, 32, 33, 34, 35, 36, 37, 38, 39, 40, 41, 42, 43] (by decide +kernel) (by decide +kernel)
set_option maxRecDepth 20000 in
theorem gX5_row_X5_fails : GoodIn wsX5_row (wsV RX5 81 RX5 yX5_fails wsX5_fails) := goodIn_app (goodIn_of _ (by decide +kernel)) ggX5_row_X5_fails
theorem dX5_row_0 : decode cX5_row 0 = .ok (.iload_n 1, 1) := by decide +kernel
theorem dX5_row_1 : decode cX5_row 1 = .ok (.ifCond .lt 42, 3) := by decide +kernel
theorem dX5_row_4 : decode cX5_row 4 = .ok (.iload_n 2, 1) := by decide +kernel
theorem dX5_row_5 : decode cX5_row 5 = .ok (.bipush 49, 2) := by decide +kernel
theorem dX5_row_7 : decode cX5_row 7 = .ok (.if_icmp .gt 36, 3) := by decide +kernel
theorem dX5_row_10 : decode cX5_row 10 = .ok (.iload_n 1, 1) := by decide +kernel
theorem dX5_row_11 : decode cX5_row 11 = .ok (.iload_n 2, 1) := by decide +kernel
theorem dX5_row_12 : decode cX5_row 12 = .ok (.if_icmp .gt 31, 3) := by decide +kernel
theorem dX5_row_15 : decode cX5_row 15 = .ok (.iload_n 3, 1) := by decide +kernel
theorem dX5_row_16 : decode cX5_row 16 = .ok (.ifCond .lt 27, 3) := by decide +kernel
theorem dX5_row_19 : decode cX5_row 19 = .ok (.iload 4, 2) := by decide +kernel
theorem dX5_row_21 : decode cX5_row 21 = .ok (.bipush 9, 2) := by decide +kernel
theorem dX5_row_23 : decode cX5_row 23 = .ok (.if_icmp .gt 20, 3) := by decide +kernel
theorem dX5_row_26 : decode cX5_row 26 = .ok (.iload_n 3, 1) := by decide +kernel
theorem dX5_row_27 : decode cX5_row 27 = .ok (.iload 4, 2) := by decide +kernel
theorem dX5_row_29 : decode cX5_row 29 = .ok (.if_icmp .gt 14, 3) := by decide +kernel
theorem dX5_row_32 : decode cX5_row 32 = .ok (.iload 5, 2) := by decide +kernel
theorem dX5_row_34 : decode cX5_row 34 = .ok (.iconst 1, 1) := by decide +kernel
theorem dX5_row_35 : decode cX5_row 35 = .ok (.bipush 99, 2) := by decide +kernel
theorem dX5_row_37 : decode cX5_row 37 = .ok (.invokestatic 71, 3) := by decide +kernel
theorem dX5_row_40 : decode cX5_row 40 = .ok (.ifCond .eq 7, 3) := by decide +kernel
theorem dX5_row_43 : decode cX5_row 43 = .ok (.iconst 1, 1) := by decide +kernel
theorem dX5_row_44 : decode cX5_row 44 = .ok (.goto 4, 3) := by decide +kernel
theorem dX5_row_47 : decode cX5_row 47 = .ok (.iconst 0, 1) := by decide +kernel
theorem dX5_row_48 : decode cX5_row 48 = .ok (.istore 6, 2) := by decide +kernel
theorem dX5_row_50 : decode cX5_row 50 = .ok (.aload_n 0, 1) := by decide +kernel
theorem dX5_row_51 : decode cX5_row 51 = .ok (.aload_n 0, 1) := by decide +kernel
theorem dX5_row_52 : decode cX5_row 52 = .ok (.getfield 75, 3) := by decide +kernel
theorem dX5_row_55 : decode cX5_row 55 = .ok (.ifCond .gt 12, 3) := by decide +kernel
theorem dX5_row_58 : decode cX5_row 58 = .ok (.aload_n 0, 1) := by decide +kernel
theorem dX5_row_59 : decode cX5_row 59 = .ok (.getfield 78, 3) := by decide +kernel
theorem dX5_row_62 : decode cX5_row 62 = .ok (.bipush 8, 2) := by decide +kernel
theorem dX5_row_64 : decode cX5_row 64 = .ok (.if_icmp .ne 7, 3) := by decide +kernel
theorem dX5_row_67 : decode cX5_row 67 = .ok (.iconst 1, 1) := by decide +kernel
theorem dX5_row_68 : decode cX5_row 68 = .ok (.goto 4, 3) := by decide +kernel
theorem dX5_row_71 : decode cX5_row 71 = .ok (.iconst 0, 1) := by decide +kernel
theorem dX5_row_72 : decode cX5_row 72 = .ok (.iload 6, 2) := by decide +kernel
theorem dX5_row_74 : decode cX5_row 74 = .ok (.iconst 0, 1) := by decide +kernel
theorem dX5_row_75 : decode cX5_row 75 = .ok (.invokevirtual 81, 3) := by decide +kernel
theorem dX5_row_78 : decode cX5_row 78 = .ok (.ifCond .eq 5, 3) := by decide +kernel
theorem dX5_row_81 : decode cX5_row 81 = .ok (.iconst 0, 1) := by decide +kernel
theorem dX5_row_82 : decode cX5_row 82 = .ok (.ireturn, 1) := by decide +kernel
theorem dX5_row_83 : decode cX5_row 83 = .ok (.aload_n 0, 1) := by decide +kernel
theorem dX5_row_84 : decode cX5_row 84 = .ok (.getfield 7, 3) := by decide +kernel
theorem dX5_row_87 : decode cX5_row 87 = .ok (.iconst 5, 1) := by decide +kernel
theorem dX5_row_88 : decode cX5_row 88 = .ok (.aload_n 0, 1) := by decide +kernel
theorem dX5_row_89 : decode cX5_row 89 = .ok (.getfield 78, 3) := by decide +kernel
theorem dX5_row_92 : decode cX5_row 92 = .ok (.imul, 1) := by decide +kernel
theorem dX5_row_93 : decode cX5_row 93 = .ok (.iload_n 1, 1) := by decide +kernel
theorem dX5_row_94 : decode cX5_row 94 = .ok (.iastore, 1) := by decide +kernel
theorem dX5_row_95 : decode cX5_row 95 = .ok (.aload_n 0, 1) := by decide +kernel
theorem dX5_row_96 : decode cX5_row 96 = .ok (.getfield 7, 3) := by decide +kernel
theorem dX5_row_99 : decode cX5_row 99 = .ok (.iconst 5, 1) := by decide +kernel
theorem dX5_row_100 : decode cX5_row 100 = .ok (.aload_n 0, 1) := by decide +kernel
theorem dX5_row_101 : decode cX5_row 101 = .ok (.getfield 78, 3) := by decide +kernel
theorem dX5_row_104 : decode cX5_row 104 = .ok (.imul, 1) := by decide +kernel
theorem dX5_row_105 : decode cX5_row 105 = .ok (.iconst 1, 1) := by decide +kernel
theorem dX5_row_106 : decode cX5_row 106 = .ok (.iadd, 1) := by decide +kernel
theorem dX5_row_107 : decode cX5_row 107 = .ok (.iload_n 2, 1) := by decide +kernel
theorem dX5_row_108 : decode cX5_row 108 = .ok (.iastore, 1) := by decide +kernel
theorem dX5_row_109 : decode cX5_row 109 = .ok (.aload_n 0, 1) := by decide +kernel
theorem dX5_row_110 : decode cX5_row 110 = .ok (.getfield 7, 3) := by decide +kernel
theorem dX5_row_113 : decode cX5_row 113 = .ok (.iconst 5, 1) := by decide +kernel
theorem dX5_row_114 : decode cX5_row 114 = .ok (.aload_n 0, 1) := by decide +kernel
theorem dX5_row_115 : decode cX5_row 115 = .ok (.getfield 78, 3) := by decide +kernel
theorem dX5_row_118 : decode cX5_row 118 = .ok (.imul, 1) := by decide +kernel
theorem dX5_row_119 : decode cX5_row 119 = .ok (.iconst 2, 1) := by decide +kernel
theorem dX5_row_120 : decode cX5_row 120 = .ok (.iadd, 1) := by decide +kernel
theorem dX5_row_121 : decode cX5_row 121 = .ok (.iload_n 3, 1) := by decide +kernel
theorem dX5_row_122 : decode cX5_row 122 = .ok (.iastore, 1) := by decide +kernel
theorem dX5_row_123 : decode cX5_row 123 = .ok (.aload_n 0, 1) := by decide +kernel
theorem dX5_row_124 : decode cX5_row 124 = .ok (.getfield 7, 3) := by decide +kernel
theorem dX5_row_127 : decode cX5_row 127 = .ok (.iconst 5, 1) := by decide +kernel
theorem dX5_row_128 : decode cX5_row 128 = .ok (.aload_n 0, 1) := by decide +kernel
theorem dX5_row_129 : decode cX5_row 129 = .ok (.getfield 78, 3) := by decide +kernel
theorem dX5_row_132 : decode cX5_row 132 = .ok (.imul, 1) := by decide +kernel
theorem dX5_row_133 : decode cX5_row 133 = .ok (.iconst 3, 1) := by decide +kernel
theorem dX5_row_134 : decode cX5_row 134 = .ok (.iadd, 1) := by decide +kernel
theorem dX5_row_135 : decode cX5_row 135 = .ok (.iload 4, 2) := by decide +kernel
theorem dX5_row_137 : decode cX5_row 137 = .ok (.iastore, 1) := by decide +kernel
theorem dX5_row_138 : decode cX5_row 138 = .ok (.aload_n 0, 1) := by decide +kernel
theorem dX5_row_139 : decode cX5_row 139 = .ok (.getfield 7, 3) := by decide +kernel
theorem dX5_row_142 : decode cX5_row 142 = .ok (.iconst 5, 1) := by decide +kernel
theorem dX5_row_143 : decode cX5_row 143 = .ok (.aload_n 0, 1) := by decide +kernel
theorem dX5_row_144 : decode cX5_row 144 = .ok (.getfield 78, 3) := by decide +kernel
theorem dX5_row_147 : decode cX5_row 147 = .ok (.imul, 1) := by decide +kernel
theorem dX5_row_148 : decode cX5_row 148 = .ok (.iconst 4, 1) := by decide +kernel
theorem dX5_row_149 : decode cX5_row 149 = .ok (.iadd, 1) := by decide +kernel
theorem dX5_row_150 : decode cX5_row 150 = .ok (.iload 5, 2) := by decide +kernel
theorem dX5_row_152 : decode cX5_row 152 = .ok (.iastore, 1) := by decide +kernel
theorem dX5_row_153 : decode cX5_row 153 = .ok (.aload_n 0, 1) := by decide +kernel
theorem dX5_row_154 : decode cX5_row 154 = .ok (.dup, 1) := by decide +kernel
theorem dX5_row_155 : decode cX5_row 155 = .ok (.getfield 78, 3) := by decide +kernel
theorem dX5_row_158 : decode cX5_row 158 = .ok (.iconst 1, 1) := by decide +kernel
theorem dX5_row_159 : decode cX5_row 159 = .ok (.iadd, 1) := by decide +kernel
theorem dX5_row_160 : decode cX5_row 160 = .ok (.putfield 78, 3) := by decide +kernel
theorem dX5_row_163 : decode cX5_row 163 = .ok (.aload_n 0, 1) := by decide +kernel
theorem dX5_row_164 : decode cX5_row 164 = .ok (.getfield 78, 3) := by decide +kernel
theorem dX5_row_167 : decode cX5_row 167 = .ok (.iconst 1, 1) := by decide +kernel
theorem dX5_row_168 : decode cX5_row 168 = .ok (.isub, 1) := by decide +kernel
theorem dX5_row_169 : decode cX5_row 169 = .ok (.ireturn, 1) := by decide +kernel
set_option maxRecDepth 20000 in
theorem ggX5_undo_X5_fails : GoodIn wsX5_undo wsX5_fails := goodIn_r _ [7, 8, 9, 10, 11, 12, 13, 14, 15, 16, 17, 18, 19, 20, 21, 22, 23, 24, 25, 26, 27, 28, 29, 30, 31, 32, 33, 34, 35, 36, 37, 38, 39] (by decide +kernel) (by decide +kernel)
set_option maxRecDepth 20000 in
theorem gX5_undo_X5_fails : GoodIn wsX5_undo (wsV RX5 81 RX5 yX5_fails wsX5_fails) := goodIn_app (goodIn_of _ (by decide +kernel)) ggX5_undo_X5_fails
theorem dX5_undo_0 : decode cX5_undo 0 = .ok (.aload_n 0, 1) := by decide +kernel
theorem dX5_undo_1 : decode cX5_undo 1 = .ok (.aload_n 0, 1) := by decide +kernel
theorem dX5_undo_2 : decode cX5_undo 2 = .ok (.getfield 75, 3) := by decide +kernel
theorem dX5_undo_5 : decode cX5_undo 5 = .ok (.ifCond .gt 10, 3) := by decide +kernel
theorem dX5_undo_8 : decode cX5_undo 8 = .ok (.aload_n 0, 1) := by decide +kernel
theorem dX5_undo_9 : decode cX5_undo 9 = .ok (.getfield 78, 3) := by decide +kernel
theorem dX5_undo_12 : decode cX5_undo 12 = .ok (.ifCond .ne 7, 3) := by decide +kernel
theorem dX5_undo_15 : decode cX5_undo 15 = .ok (.iconst 1, 1) := by decide +kernel
theorem dX5_undo_16 : decode cX5_undo 16 = .ok (.goto 4, 3) := by decide +kernel
theorem dX5_undo_19 : decode cX5_undo 19 = .ok (.iconst 0, 1) := by decide +kernel
theorem dX5_undo_20 : decode cX5_undo 20 = .ok (.iconst 0, 1) := by decide +kernel
theorem dX5_undo_21 : decode cX5_undo 21 = .ok (.iconst 0, 1) := by decide +kernel
theorem dX5_undo_22 : decode cX5_undo 22 = .ok (.invokevirtual 81, 3) := by decide +kernel
theorem dX5_undo_25 : decode cX5_undo 25 = .ok (.ifCond .ne 13, 3) := by decide +kernel
theorem dX5_undo_28 : decode cX5_undo 28 = .ok (.aload_n 0, 1) := by decide +kernel
theorem dX5_undo_29 : decode cX5_undo 29 = .ok (.dup, 1) := by decide +kernel
theorem dX5_undo_30 : decode cX5_undo 30 = .ok (.getfield 78, 3) := by decide +kernel
theorem dX5_undo_33 : decode cX5_undo 33 = .ok (.iconst 1, 1) := by decide +kernel
theorem dX5_undo_34 : decode cX5_undo 34 = .ok (.isub, 1) := by decide +kernel
theorem dX5_undo_35 : decode cX5_undo 35 = .ok (.putfield 78, 3) := by decide +kernel
theorem dX5_undo_38 : decode cX5_undo 38 = .ok (.return_, 1) := by decide +kernel
theorem dX5_matches_0 : decode cX5_matches 0 = .ok (.aload_n 0, 1) := by decide +kernel
theorem dX5_matches_1 : decode cX5_matches 1 = .ok (.getfield 7, 3) := by decide +kernel
theorem dX5_matches_4 : decode cX5_matches 4 = .ok (.iconst 5, 1) := by decide +kernel
theorem dX5_matches_5 : decode cX5_matches 5 = .ok (.iload_n 1, 1) := by decide +kernel
theorem dX5_matches_6 : decode cX5_matches 6 = .ok (.imul, 1) := by decide +kernel
theorem dX5_matches_7 : decode cX5_matches 7 = .ok (.iaload, 1) := by decide +kernel
theorem dX5_matches_8 : decode cX5_matches 8 = .ok (.iload_n 2, 1) := by decide +kernel
theorem dX5_matches_9 : decode cX5_matches 9 = .ok (.if_icmp .gt 49, 3) := by decide +kernel
theorem dX5_matches_12 : decode cX5_matches 12 = .ok (.iload_n 2, 1) := by decide +kernel
theorem dX5_matches_13 : decode cX5_matches 13 = .ok (.aload_n 0, 1) := by decide +kernel
theorem dX5_matches_14 : decode cX5_matches 14 = .ok (.getfield 7, 3) := by decide +kernel
theorem dX5_matches_17 : decode cX5_matches 17 = .ok (.iconst 5, 1) := by decide +kernel
theorem dX5_matches_18 : decode cX5_matches 18 = .ok (.iload_n 1, 1) := by decide +kernel
theorem dX5_matches_19 : decode cX5_matches 19 = .ok (.imul, 1) := by decide +kernel
theorem dX5_matches_20 : decode cX5_matches 20 = .ok (.iconst 1, 1) := by decide +kernel
theorem dX5_matches_21 : decode cX5_matches 21 = .ok (.iadd, 1) := by decide +kernel
theorem dX5_matches_22 : decode cX5_matches 22 = .ok (.iaload, 1) := by decide +kernel
theorem dX5_matches_23 : decode cX5_matches 23 = .ok (.if_icmp .gt 35, 3) := by decide +kernel
theorem dX5_matches_26 : decode cX5_matches 26 = .ok (.aload_n 0, 1) := by decide +kernel
theorem dX5_matches_27 : decode cX5_matches 27 = .ok (.getfield 7, 3) := by decide +kernel
theorem dX5_matches_30 : decode cX5_matches 30 = .ok (.iconst 5, 1) := by decide +kernel
theorem dX5_matches_31 : decode cX5_matches 31 = .ok (.iload_n 1, 1) := by decide +kernel
theorem dX5_matches_32 : decode cX5_matches 32 = .ok (.imul, 1) := by decide +kernel
theorem dX5_matches_33 : decode cX5_matches 33 = .ok (.iconst 2, 1) := by decide +kernel
theorem dX5_matches_34 : decode cX5_matches 34 = .ok (.iadd, 1) := by decide +kernel
theorem dX5_matches_35 : decode cX5_matches 35 = .ok (.iaload, 1) := by decide +kernel
theorem dX5_matches_36 : decode cX5_matches 36 = .ok (.iload_n 3, 1) := by decide +kernel
theorem dX5_matches_37 : decode cX5_matches 37 = .ok (.if_icmp .gt 21, 3) := by decide +kernel
theorem dX5_matches_40 : decode cX5_matches 40 = .ok (.iload_n 3, 1) := by decide +kernel
theorem dX5_matches_41 : decode cX5_matches 41 = .ok (.aload_n 0, 1) := by decide +kernel
theorem dX5_matches_42 : decode cX5_matches 42 = .ok (.getfield 7, 3) := by decide +kernel
theorem dX5_matches_45 : decode cX5_matches 45 = .ok (.iconst 5, 1) := by decide +kernel
theorem dX5_matches_46 : decode cX5_matches 46 = .ok (.iload_n 1, 1) := by decide +kernel
theorem dX5_matches_47 : decode cX5_matches 47 = .ok (.imul, 1) := by decide +kernel
theorem dX5_matches_48 : decode cX5_matches 48 = .ok (.iconst 3, 1) := by decide +kernel
theorem dX5_matches_49 : decode cX5_matches 49 = .ok (.iadd, 1) := by decide +kernel
theorem dX5_matches_50 : decode cX5_matches 50 = .ok (.iaload, 1) := by decide +kernel
theorem dX5_matches_51 : decode cX5_matches 51 = .ok (.if_icmp .gt 7, 3) := by decide +kernel
theorem dX5_matches_54 : decode cX5_matches 54 = .ok (.iconst 1, 1) := by decide +kernel
theorem dX5_matches_55 : decode cX5_matches 55 = .ok (.goto 4, 3) := by decide +kernel
theorem dX5_matches_58 : decode cX5_matches 58 = .ok (.iconst 0, 1) := by decide +kernel
theorem dX5_matches_59 : decode cX5_matches 59 = .ok (.ireturn, 1) := by decide +kernel
set_option maxRecDepth 20000 in
theorem ggX5_flaw_X5_matches : GoodIn wsX5_flaw wsX5_matches := goodIn_r _ [6, 7, 8, 9, 10, 11, 12, 13, 14, 15, 16, 17, 18, 19, 20, 21, 22, 23, 24, 25, 26, 27, 28, 29, 30, 31, 32, 33, 34, 35, 36, 37, 38] (by decide +kernel) (by decide +kernel)
set_option maxRecDepth 20000 in
theorem gX5_flaw_X5_matches : GoodIn wsX5_flaw (wsV RX5 85 RX5 yX5_matches wsX5_matches) := goodIn_app (goodIn_of _ (by decide +kernel)) ggX5_flaw_X5_matches
theorem dX5_flaw_0 : decode cX5_flaw 0 = .ok (.iconst 0, 1) := by decide +kernel
theorem dX5_flaw_1 : decode cX5_flaw 1 = .ok (.istore_n 1, 1) := by decide +kernel
theorem dX5_flaw_2 : decode cX5_flaw 2 = .ok (.iload_n 1, 1) := by decide +kernel
theorem dX5_flaw_3 : decode cX5_flaw 3 = .ok (.sipush 500, 3) := by decide +kernel
theorem dX5_flaw_6 : decode cX5_flaw 6 = .ok (.if_icmp .ge 58, 3) := by decide +kernel
theorem dX5_flaw_9 : decode cX5_flaw 9 = .ok (.iconst 0, 1) := by decide +kernel
theorem dX5_flaw_10 : decode cX5_flaw 10 = .ok (.istore_n 2, 1) := by decide +kernel
theorem dX5_flaw_11 : decode cX5_flaw 11 = .ok (.iconst 0, 1) := by decide +kernel
theorem dX5_flaw_12 : decode cX5_flaw 12 = .ok (.istore_n 3, 1) := by decide +kernel
theorem dX5_flaw_13 : decode cX5_flaw 13 = .ok (.iload_n 3, 1) := by decide +kernel
theorem dX5_flaw_14 : decode cX5_flaw 14 = .ok (.aload_n 0, 1) := by decide +kernel
theorem dX5_flaw_15 : decode cX5_flaw 15 = .ok (.getfield 78, 3) := by decide +kernel
theorem dX5_flaw_18 : decode cX5_flaw 18 = .ok (.if_icmp .ge 33, 3) := by decide +kernel
theorem dX5_flaw_21 : decode cX5_flaw 21 = .ok (.iload_n 2, 1) := by decide +kernel
theorem dX5_flaw_22 : decode cX5_flaw 22 = .ok (.aload_n 0, 1) := by decide +kernel
theorem dX5_flaw_23 : decode cX5_flaw 23 = .ok (.iload_n 3, 1) := by decide +kernel
theorem dX5_flaw_24 : decode cX5_flaw 24 = .ok (.iload_n 1, 1) := by decide +kernel
theorem dX5_flaw_25 : decode cX5_flaw 25 = .ok (.bipush 10, 2) := by decide +kernel
theorem dX5_flaw_27 : decode cX5_flaw 27 = .ok (.idiv, 1) := by decide +kernel
theorem dX5_flaw_28 : decode cX5_flaw 28 = .ok (.iload_n 1, 1) := by decide +kernel
theorem dX5_flaw_29 : decode cX5_flaw 29 = .ok (.bipush 10, 2) := by decide +kernel
theorem dX5_flaw_31 : decode cX5_flaw 31 = .ok (.irem, 1) := by decide +kernel
theorem dX5_flaw_32 : decode cX5_flaw 32 = .ok (.invokevirtual 85, 3) := by decide +kernel
theorem dX5_flaw_35 : decode cX5_flaw 35 = .ok (.ifCond .eq 7, 3) := by decide +kernel
theorem dX5_flaw_38 : decode cX5_flaw 38 = .ok (.iconst 1, 1) := by decide +kernel
theorem dX5_flaw_39 : decode cX5_flaw 39 = .ok (.goto 4, 3) := by decide +kernel
theorem dX5_flaw_42 : decode cX5_flaw 42 = .ok (.iconst 0, 1) := by decide +kernel
theorem dX5_flaw_43 : decode cX5_flaw 43 = .ok (.iadd, 1) := by decide +kernel
theorem dX5_flaw_44 : decode cX5_flaw 44 = .ok (.istore_n 2, 1) := by decide +kernel
theorem dX5_flaw_45 : decode cX5_flaw 45 = .ok (.iinc 3 1, 3) := by decide +kernel
theorem dX5_flaw_48 : decode cX5_flaw 48 = .ok (.goto (-35), 3) := by decide +kernel
theorem dX5_flaw_51 : decode cX5_flaw 51 = .ok (.iload_n 2, 1) := by decide +kernel
theorem dX5_flaw_52 : decode cX5_flaw 52 = .ok (.iconst 1, 1) := by decide +kernel
theorem dX5_flaw_53 : decode cX5_flaw 53 = .ok (.if_icmp .eq 5, 3) := by decide +kernel
theorem dX5_flaw_56 : decode cX5_flaw 56 = .ok (.iload_n 1, 1) := by decide +kernel
theorem dX5_flaw_57 : decode cX5_flaw 57 = .ok (.ireturn, 1) := by decide +kernel
theorem dX5_flaw_58 : decode cX5_flaw 58 = .ok (.iinc 1 1, 3) := by decide +kernel
theorem dX5_flaw_61 : decode cX5_flaw 61 = .ok (.goto (-59), 3) := by decide +kernel
theorem dX5_flaw_64 : decode cX5_flaw 64 = .ok (.iconst (-1), 1) := by decide +kernel
theorem dX5_flaw_65 : decode cX5_flaw 65 = .ok (.ireturn, 1) := by decide +kernel
set_option maxRecDepth 20000 in
theorem ggX5_witness_X5_flaw : GoodIn wsX5_witness wsX5_flaw := goodIn_r _ [6, 7, 8, 9, 10, 5, 11, 12, 13, 14, 15, 16, 17, 18, 19, 20, 21, 22, 23, 24, 25, 26, 27, 28, 29, 30, 31, 32, 33, 34, 35, 36, 37, 38, 39, 40, 41, 42, 43] (by decide +kernel) (by decide +kernel)
set_option maxRecDepth 20000 in
theorem gX5_witness_X5_flaw : GoodIn wsX5_witness (wsV RX5 88 RX5 yX5_flaw wsX5_flaw) := goodIn_app (goodIn_of _ (by decide +kernel)) ggX5_witness_X5_flaw
theorem dX5_witness_0 : decode cX5_witness 0 = .ok (.aload_n 0, 1) := by decide +kernel
theorem dX5_witness_1 : decode cX5_witness 1 = .ok (.iconst 0, 1) := by decide +kernel
theorem dX5_witness_2 : decode cX5_witness 2 = .ok (.putfield 68, 3) := by decide +kernel
theorem dX5_witness_5 : decode cX5_witness 5 = .ok (.aload_n 0, 1) := by decide +kernel
theorem dX5_witness_6 : decode cX5_witness 6 = .ok (.invokevirtual 88, 3) := by decide +kernel
theorem dX5_witness_9 : decode cX5_witness 9 = .ok (.ireturn, 1) := by decide +kernel
set_option maxRecDepth 20000 in
theorem ggX5_rate_X5_matches : GoodIn wsX5_rate wsX5_matches := goodIn_r _ [7, 2, 8, 9, 10, 11, 12, 13, 14, 15, 16, 17, 18, 19, 20, 21, 22, 23, 24, 25, 26, 27, 28, 29, 30, 31, 32, 33, 34, 35, 36, 37, 38] (by decide +kernel) (by decide +kernel)
set_option maxRecDepth 20000 in
theorem gX5_rate_X5_matches : GoodIn wsX5_rate (wsV RX5 85 RX5 yX5_matches wsX5_matches) := goodIn_app (goodIn_of _ (by decide +kernel)) ggX5_rate_X5_matches
theorem dX5_rate_0 : decode cX5_rate 0 = .ok (.iconst 0, 1) := by decide +kernel
theorem dX5_rate_1 : decode cX5_rate 1 = .ok (.istore_n 3, 1) := by decide +kernel
theorem dX5_rate_2 : decode cX5_rate 2 = .ok (.iconst 0, 1) := by decide +kernel
theorem dX5_rate_3 : decode cX5_rate 3 = .ok (.istore 4, 2) := by decide +kernel
theorem dX5_rate_5 : decode cX5_rate 5 = .ok (.iload 4, 2) := by decide +kernel
theorem dX5_rate_7 : decode cX5_rate 7 = .ok (.aload_n 0, 1) := by decide +kernel
theorem dX5_rate_8 : decode cX5_rate 8 = .ok (.getfield 78, 3) := by decide +kernel
theorem dX5_rate_11 : decode cX5_rate 11 = .ok (.if_icmp .ge 36, 3) := by decide +kernel
theorem dX5_rate_14 : decode cX5_rate 14 = .ok (.aload_n 0, 1) := by decide +kernel
theorem dX5_rate_15 : decode cX5_rate 15 = .ok (.iload 4, 2) := by decide +kernel
theorem dX5_rate_17 : decode cX5_rate 17 = .ok (.iload_n 1, 1) := by decide +kernel
theorem dX5_rate_18 : decode cX5_rate 18 = .ok (.iload_n 2, 1) := by decide +kernel
theorem dX5_rate_19 : decode cX5_rate 19 = .ok (.invokevirtual 85, 3) := by decide +kernel
theorem dX5_rate_22 : decode cX5_rate 22 = .ok (.ifCond .eq 17, 3) := by decide +kernel
theorem dX5_rate_25 : decode cX5_rate 25 = .ok (.aload_n 0, 1) := by decide +kernel
theorem dX5_rate_26 : decode cX5_rate 26 = .ok (.getfield 7, 3) := by decide +kernel
theorem dX5_rate_29 : decode cX5_rate 29 = .ok (.iconst 5, 1) := by decide +kernel
theorem dX5_rate_30 : decode cX5_rate 30 = .ok (.iload 4, 2) := by decide +kernel
theorem dX5_rate_32 : decode cX5_rate 32 = .ok (.imul, 1) := by decide +kernel
theorem dX5_rate_33 : decode cX5_rate 33 = .ok (.iconst 4, 1) := by decide +kernel
theorem dX5_rate_34 : decode cX5_rate 34 = .ok (.iadd, 1) := by decide +kernel
theorem dX5_rate_35 : decode cX5_rate 35 = .ok (.iaload, 1) := by decide +kernel
theorem dX5_rate_36 : decode cX5_rate 36 = .ok (.goto 4, 3) := by decide +kernel
theorem dX5_rate_39 : decode cX5_rate 39 = .ok (.iload_n 3, 1) := by decide +kernel
theorem dX5_rate_40 : decode cX5_rate 40 = .ok (.istore_n 3, 1) := by decide +kernel
theorem dX5_rate_41 : decode cX5_rate 41 = .ok (.iinc 4 1, 3) := by decide +kernel
theorem dX5_rate_44 : decode cX5_rate 44 = .ok (.goto (-39), 3) := by decide +kernel
theorem dX5_rate_47 : decode cX5_rate 47 = .ok (.iload_n 3, 1) := by decide +kernel
theorem dX5_rate_48 : decode cX5_rate 48 = .ok (.ireturn, 1) := by decide +kernel
set_option maxRecDepth 20000 in
theorem ggX5_quota_X5_outside : GoodIn wsX5_quota wsX5_outside := goodIn_r _ [6] (by decide +kernel) (by decide +kernel)
set_option maxRecDepth 20000 in
theorem gX5_quota_X5_outside : GoodIn wsX5_quota (va_wsS RX5 71 yX5_outside wsX5_outside) := goodIn_app (goodIn_of _ (by decide +kernel)) ggX5_quota_X5_outside
set_option maxRecDepth 20000 in
theorem ggX5_quota_X5_fails : GoodIn wsX5_quota wsX5_fails := goodIn_r _ [10, 11, 12, 13, 14, 15, 16, 17, 18, 19, 20, 21, 22, 23, 24, 25, 26, 27, 28, 29, 30, 31, 32, 33, 34, 35, 36, 37, 38, 39, 40, 41, 42] (by decide +kernel) (by decide +kernel)
set_option maxRecDepth 20000 in
theorem gX5_quota_X5_fails : GoodIn wsX5_quota (wsV RX5 81 RX5 yX5_fails wsX5_fails) := goodIn_app (goodIn_of _ (by decide +kernel)) ggX5_quota_X5_fails
theorem dX5_quota_0 : decode cX5_quota 0 = .ok (.aload_n 0, 1) := by decide +kernel
theorem dX5_quota_1 : decode cX5_quota 1 = .ok (.aload_n 0, 1) := by decide +kernel
theorem dX5_quota_2 : decode cX5_quota 2 = .ok (.getfield 75, 3) := by decide +kernel
theorem dX5_quota_5 : decode cX5_quota 5 = .ok (.ifCond .le 7, 3) := by decide +kernel
theorem dX5_quota_8 : decode cX5_quota 8 = .ok (.iconst 1, 1) := by decide +kernel
theorem dX5_quota_9 : decode cX5_quota 9 = .ok (.goto 4, 3) := by decide +kernel
theorem dX5_quota_12 : decode cX5_quota 12 = .ok (.iconst 0, 1) := by decide +kernel
theorem dX5_quota_13 : decode cX5_quota 13 = .ok (.iload_n 1, 1) := by decide +kernel
theorem dX5_quota_14 : decode cX5_quota 14 = .ok (.iconst 0, 1) := by decide +kernel
theorem dX5_quota_15 : decode cX5_quota 15 = .ok (.bipush 90, 2) := by decide +kernel
theorem dX5_quota_17 : decode cX5_quota 17 = .ok (.invokestatic 71, 3) := by decide +kernel
theorem dX5_quota_20 : decode cX5_quota 20 = .ok (.iconst 0, 1) := by decide +kernel
theorem dX5_quota_21 : decode cX5_quota 21 = .ok (.invokevirtual 81, 3) := by decide +kernel
theorem dX5_quota_24 : decode cX5_quota 24 = .ok (.ifCond .ne 8, 3) := by decide +kernel
theorem dX5_quota_27 : decode cX5_quota 27 = .ok (.aload_n 0, 1) := by decide +kernel
theorem dX5_quota_28 : decode cX5_quota 28 = .ok (.iload_n 1, 1) := by decide +kernel
theorem dX5_quota_29 : decode cX5_quota 29 = .ok (.putfield 92, 3) := by decide +kernel
theorem dX5_quota_32 : decode cX5_quota 32 = .ok (.return_, 1) := by decide +kernel
set_option maxRecDepth 20000 in
theorem ggX5_terms_X5_outside : GoodIn wsX5_terms wsX5_outside := goodIn_r _ [8] (by decide +kernel) (by decide +kernel)
set_option maxRecDepth 20000 in
theorem gX5_terms_X5_outside : GoodIn wsX5_terms (va_wsS RX5 71 yX5_outside wsX5_outside) := goodIn_app (goodIn_of _ (by decide +kernel)) ggX5_terms_X5_outside
set_option maxRecDepth 20000 in
theorem ggX5_terms_X5_fails : GoodIn wsX5_terms wsX5_fails := goodIn_r _ [12, 13, 14, 15, 16, 17, 18, 19, 20, 21, 22, 23, 24, 25, 26, 27, 28, 29, 30, 31, 32, 33, 34, 35, 36, 37, 38, 39, 40, 41, 42, 43, 44] (by decide +kernel) (by decide +kernel)
set_option maxRecDepth 20000 in
theorem gX5_terms_X5_fails : GoodIn wsX5_terms (wsV RX5 81 RX5 yX5_fails wsX5_fails) := goodIn_app (goodIn_of _ (by decide +kernel)) ggX5_terms_X5_fails
theorem dX5_terms_0 : decode cX5_terms 0 = .ok (.aload_n 0, 1) := by decide +kernel
theorem dX5_terms_1 : decode cX5_terms 1 = .ok (.aload_n 0, 1) := by decide +kernel
theorem dX5_terms_2 : decode cX5_terms 2 = .ok (.getfield 95, 3) := by decide +kernel
theorem dX5_terms_5 : decode cX5_terms 5 = .ok (.ifCond .le 7, 3) := by decide +kernel
theorem dX5_terms_8 : decode cX5_terms 8 = .ok (.iconst 1, 1) := by decide +kernel
theorem dX5_terms_9 : decode cX5_terms 9 = .ok (.goto 4, 3) := by decide +kernel
theorem dX5_terms_12 : decode cX5_terms 12 = .ok (.iconst 0, 1) := by decide +kernel
theorem dX5_terms_13 : decode cX5_terms 13 = .ok (.iload_n 1, 1) := by decide +kernel
theorem dX5_terms_14 : decode cX5_terms 14 = .ok (.iconst 0, 1) := by decide +kernel
theorem dX5_terms_15 : decode cX5_terms 15 = .ok (.sipush 999, 3) := by decide +kernel
theorem dX5_terms_18 : decode cX5_terms 18 = .ok (.invokestatic 71, 3) := by decide +kernel
theorem dX5_terms_21 : decode cX5_terms 21 = .ok (.ifCond .ne 25, 3) := by decide +kernel
theorem dX5_terms_24 : decode cX5_terms 24 = .ok (.iload_n 2, 1) := by decide +kernel
theorem dX5_terms_25 : decode cX5_terms 25 = .ok (.iconst 1, 1) := by decide +kernel
theorem dX5_terms_26 : decode cX5_terms 26 = .ok (.sipush 9999, 3) := by decide +kernel
theorem dX5_terms_29 : decode cX5_terms 29 = .ok (.invokestatic 71, 3) := by decide +kernel
theorem dX5_terms_32 : decode cX5_terms 32 = .ok (.ifCond .ne 14, 3) := by decide +kernel
theorem dX5_terms_35 : decode cX5_terms 35 = .ok (.iload_n 3, 1) := by decide +kernel
theorem dX5_terms_36 : decode cX5_terms 36 = .ok (.iconst 1, 1) := by decide +kernel
theorem dX5_terms_37 : decode cX5_terms 37 = .ok (.sipush 9999, 3) := by decide +kernel
theorem dX5_terms_40 : decode cX5_terms 40 = .ok (.invokestatic 71, 3) := by decide +kernel
theorem dX5_terms_43 : decode cX5_terms 43 = .ok (.ifCond .eq 7, 3) := by decide +kernel
theorem dX5_terms_46 : decode cX5_terms 46 = .ok (.iconst 1, 1) := by decide +kernel
theorem dX5_terms_47 : decode cX5_terms 47 = .ok (.goto 4, 3) := by decide +kernel
theorem dX5_terms_50 : decode cX5_terms 50 = .ok (.iconst 0, 1) := by decide +kernel
theorem dX5_terms_51 : decode cX5_terms 51 = .ok (.iconst 0, 1) := by decide +kernel
theorem dX5_terms_52 : decode cX5_terms 52 = .ok (.invokevirtual 81, 3) := by decide +kernel
theorem dX5_terms_55 : decode cX5_terms 55 = .ok (.ifCond .eq 4, 3) := by decide +kernel
theorem dX5_terms_58 : decode cX5_terms 58 = .ok (.return_, 1) := by decide +kernel
theorem dX5_terms_59 : decode cX5_terms 59 = .ok (.aload_n 0, 1) := by decide +kernel
theorem dX5_terms_60 : decode cX5_terms 60 = .ok (.iload_n 1, 1) := by decide +kernel
theorem dX5_terms_61 : decode cX5_terms 61 = .ok (.putfield 98, 3) := by decide +kernel
theorem dX5_terms_64 : decode cX5_terms 64 = .ok (.aload_n 0, 1) := by decide +kernel
theorem dX5_terms_65 : decode cX5_terms 65 = .ok (.iload_n 2, 1) := by decide +kernel
theorem dX5_terms_66 : decode cX5_terms 66 = .ok (.putfield 55, 3) := by decide +kernel
theorem dX5_terms_69 : decode cX5_terms 69 = .ok (.aload_n 0, 1) := by decide +kernel
theorem dX5_terms_70 : decode cX5_terms 70 = .ok (.iload_n 3, 1) := by decide +kernel
theorem dX5_terms_71 : decode cX5_terms 71 = .ok (.putfield 59, 3) := by decide +kernel
theorem dX5_terms_74 : decode cX5_terms 74 = .ok (.return_, 1) := by decide +kernel
set_option maxRecDepth 20000 in
theorem ggX5_layer_X5_outside : GoodIn wsX5_layer wsX5_outside := goodIn_r _ [9] (by decide +kernel) (by decide +kernel)
set_option maxRecDepth 20000 in
theorem gX5_layer_X5_outside : GoodIn wsX5_layer (va_wsS RX5 71 yX5_outside wsX5_outside) := goodIn_app (goodIn_of _ (by decide +kernel)) ggX5_layer_X5_outside
set_option maxRecDepth 20000 in
theorem ggX5_layer_X5_fails : GoodIn wsX5_layer wsX5_fails := goodIn_r _ [13, 14, 15, 16, 17, 18, 19, 20, 21, 22, 23, 24, 25, 26, 27, 28, 29, 30, 31, 32, 33, 34, 35, 36, 37, 38, 39, 40, 41, 42, 43, 44, 45] (by decide +kernel) (by decide +kernel)
set_option maxRecDepth 20000 in
theorem gX5_layer_X5_fails : GoodIn wsX5_layer (wsV RX5 81 RX5 yX5_fails wsX5_fails) := goodIn_app (goodIn_of _ (by decide +kernel)) ggX5_layer_X5_fails
theorem dX5_layer_0 : decode cX5_layer 0 = .ok (.aload_n 0, 1) := by decide +kernel
theorem dX5_layer_1 : decode cX5_layer 1 = .ok (.aload_n 0, 1) := by decide +kernel
theorem dX5_layer_2 : decode cX5_layer 2 = .ok (.getfield 95, 3) := by decide +kernel
theorem dX5_layer_5 : decode cX5_layer 5 = .ok (.ifCond .le 7, 3) := by decide +kernel
theorem dX5_layer_8 : decode cX5_layer 8 = .ok (.iconst 1, 1) := by decide +kernel
theorem dX5_layer_9 : decode cX5_layer 9 = .ok (.goto 4, 3) := by decide +kernel
theorem dX5_layer_12 : decode cX5_layer 12 = .ok (.iconst 0, 1) := by decide +kernel
theorem dX5_layer_13 : decode cX5_layer 13 = .ok (.iload_n 1, 1) := by decide +kernel
theorem dX5_layer_14 : decode cX5_layer 14 = .ok (.iconst 0, 1) := by decide +kernel
theorem dX5_layer_15 : decode cX5_layer 15 = .ok (.sipush 9999, 3) := by decide +kernel
theorem dX5_layer_18 : decode cX5_layer 18 = .ok (.invokestatic 71, 3) := by decide +kernel
theorem dX5_layer_21 : decode cX5_layer 21 = .ok (.ifCond .ne 34, 3) := by decide +kernel
theorem dX5_layer_24 : decode cX5_layer 24 = .ok (.iload_n 2, 1) := by decide +kernel
theorem dX5_layer_25 : decode cX5_layer 25 = .ok (.iconst 0, 1) := by decide +kernel
theorem dX5_layer_26 : decode cX5_layer 26 = .ok (.sipush 9999, 3) := by decide +kernel
theorem dX5_layer_29 : decode cX5_layer 29 = .ok (.invokestatic 71, 3) := by decide +kernel
theorem dX5_layer_32 : decode cX5_layer 32 = .ok (.ifCond .ne 23, 3) := by decide +kernel
theorem dX5_layer_35 : decode cX5_layer 35 = .ok (.iload_n 3, 1) := by decide +kernel
theorem dX5_layer_36 : decode cX5_layer 36 = .ok (.iconst 0, 1) := by decide +kernel
theorem dX5_layer_37 : decode cX5_layer 37 = .ok (.iconst 3, 1) := by decide +kernel
theorem dX5_layer_38 : decode cX5_layer 38 = .ok (.invokestatic 71, 3) := by decide +kernel
theorem dX5_layer_41 : decode cX5_layer 41 = .ok (.ifCond .ne 14, 3) := by decide +kernel
theorem dX5_layer_44 : decode cX5_layer 44 = .ok (.iload 4, 2) := by decide +kernel
theorem dX5_layer_46 : decode cX5_layer 46 = .ok (.iconst 0, 1) := by decide +kernel
theorem dX5_layer_47 : decode cX5_layer 47 = .ok (.bipush 99, 2) := by decide +kernel
theorem dX5_layer_49 : decode cX5_layer 49 = .ok (.invokestatic 71, 3) := by decide +kernel
theorem dX5_layer_52 : decode cX5_layer 52 = .ok (.ifCond .eq 7, 3) := by decide +kernel
theorem dX5_layer_55 : decode cX5_layer 55 = .ok (.iconst 1, 1) := by decide +kernel
theorem dX5_layer_56 : decode cX5_layer 56 = .ok (.goto 4, 3) := by decide +kernel
theorem dX5_layer_59 : decode cX5_layer 59 = .ok (.iconst 0, 1) := by decide +kernel
theorem dX5_layer_60 : decode cX5_layer 60 = .ok (.iconst 0, 1) := by decide +kernel
theorem dX5_layer_61 : decode cX5_layer 61 = .ok (.invokevirtual 81, 3) := by decide +kernel
theorem dX5_layer_64 : decode cX5_layer 64 = .ok (.ifCond .eq 4, 3) := by decide +kernel
theorem dX5_layer_67 : decode cX5_layer 67 = .ok (.return_, 1) := by decide +kernel
theorem dX5_layer_68 : decode cX5_layer 68 = .ok (.aload_n 0, 1) := by decide +kernel
theorem dX5_layer_69 : decode cX5_layer 69 = .ok (.iload_n 1, 1) := by decide +kernel
theorem dX5_layer_70 : decode cX5_layer 70 = .ok (.putfield 62, 3) := by decide +kernel
theorem dX5_layer_73 : decode cX5_layer 73 = .ok (.aload_n 0, 1) := by decide +kernel
theorem dX5_layer_74 : decode cX5_layer 74 = .ok (.iload_n 2, 1) := by decide +kernel
theorem dX5_layer_75 : decode cX5_layer 75 = .ok (.putfield 101, 3) := by decide +kernel
theorem dX5_layer_78 : decode cX5_layer 78 = .ok (.aload_n 0, 1) := by decide +kernel
theorem dX5_layer_79 : decode cX5_layer 79 = .ok (.iload_n 3, 1) := by decide +kernel
theorem dX5_layer_80 : decode cX5_layer 80 = .ok (.putfield 104, 3) := by decide +kernel
theorem dX5_layer_83 : decode cX5_layer 83 = .ok (.aload_n 0, 1) := by decide +kernel
theorem dX5_layer_84 : decode cX5_layer 84 = .ok (.iload 4, 2) := by decide +kernel
theorem dX5_layer_86 : decode cX5_layer 86 = .ok (.putfield 107, 3) := by decide +kernel
theorem dX5_layer_89 : decode cX5_layer 89 = .ok (.return_, 1) := by decide +kernel
theorem dX5_isPolicy_0 : decode cX5_isPolicy 0 = .ok (.iload_n 1, 1) := by decide +kernel
theorem dX5_isPolicy_1 : decode cX5_isPolicy 1 = .ok (.ifCond .lt 15, 3) := by decide +kernel
theorem dX5_isPolicy_4 : decode cX5_isPolicy 4 = .ok (.iload_n 1, 1) := by decide +kernel
theorem dX5_isPolicy_5 : decode cX5_isPolicy 5 = .ok (.aload_n 0, 1) := by decide +kernel
theorem dX5_isPolicy_6 : decode cX5_isPolicy 6 = .ok (.getfield 75, 3) := by decide +kernel
theorem dX5_isPolicy_9 : decode cX5_isPolicy 9 = .ok (.if_icmp .ge 7, 3) := by decide +kernel
theorem dX5_isPolicy_12 : decode cX5_isPolicy 12 = .ok (.iconst 1, 1) := by decide +kernel
theorem dX5_isPolicy_13 : decode cX5_isPolicy 13 = .ok (.goto 4, 3) := by decide +kernel
theorem dX5_isPolicy_16 : decode cX5_isPolicy 16 = .ok (.iconst 0, 1) := by decide +kernel
theorem dX5_isPolicy_17 : decode cX5_isPolicy 17 = .ok (.ireturn, 1) := by decide +kernel
theorem dX5_inTerm_0 : decode cX5_inTerm 0 = .ok (.iload_n 2, 1) := by decide +kernel
theorem dX5_inTerm_1 : decode cX5_inTerm 1 = .ok (.aload_n 0, 1) := by decide +kernel
theorem dX5_inTerm_2 : decode cX5_inTerm 2 = .ok (.getfield 13, 3) := by decide +kernel
theorem dX5_inTerm_5 : decode cX5_inTerm 5 = .ok (.iload_n 1, 1) := by decide +kernel
theorem dX5_inTerm_6 : decode cX5_inTerm 6 = .ok (.iaload, 1) := by decide +kernel
theorem dX5_inTerm_7 : decode cX5_inTerm 7 = .ok (.if_icmp .lt 17, 3) := by decide +kernel
theorem dX5_inTerm_10 : decode cX5_inTerm 10 = .ok (.iload_n 2, 1) := by decide +kernel
theorem dX5_inTerm_11 : decode cX5_inTerm 11 = .ok (.aload_n 0, 1) := by decide +kernel
theorem dX5_inTerm_12 : decode cX5_inTerm 12 = .ok (.getfield 16, 3) := by decide +kernel
theorem dX5_inTerm_15 : decode cX5_inTerm 15 = .ok (.iload_n 1, 1) := by decide +kernel
theorem dX5_inTerm_16 : decode cX5_inTerm 16 = .ok (.iaload, 1) := by decide +kernel
theorem dX5_inTerm_17 : decode cX5_inTerm 17 = .ok (.if_icmp .gt 7, 3) := by decide +kernel
theorem dX5_inTerm_20 : decode cX5_inTerm 20 = .ok (.iconst 1, 1) := by decide +kernel
theorem dX5_inTerm_21 : decode cX5_inTerm 21 = .ok (.goto 4, 3) := by decide +kernel
theorem dX5_inTerm_24 : decode cX5_inTerm 24 = .ok (.iconst 0, 1) := by decide +kernel
theorem dX5_inTerm_25 : decode cX5_inTerm 25 = .ok (.ireturn, 1) := by decide +kernel
theorem dX5_look_0 : decode cX5_look 0 = .ok (.iconst 0, 1) := by decide +kernel
theorem dX5_look_1 : decode cX5_look 1 = .ok (.istore 4, 2) := by decide +kernel
theorem dX5_look_3 : decode cX5_look 3 = .ok (.iload 4, 2) := by decide +kernel
theorem dX5_look_5 : decode cX5_look 5 = .ok (.iconst 4, 1) := by decide +kernel
theorem dX5_look_6 : decode cX5_look 6 = .ok (.if_icmp .ge 17, 3) := by decide +kernel
theorem dX5_look_9 : decode cX5_look 9 = .ok (.aload_n 0, 1) := by decide +kernel
theorem dX5_look_10 : decode cX5_look 10 = .ok (.getfield 34, 3) := by decide +kernel
theorem dX5_look_13 : decode cX5_look 13 = .ok (.iload 4, 2) := by decide +kernel
theorem dX5_look_15 : decode cX5_look 15 = .ok (.iconst (-1), 1) := by decide +kernel
theorem dX5_look_16 : decode cX5_look 16 = .ok (.iastore, 1) := by decide +kernel
theorem dX5_look_17 : decode cX5_look 17 = .ok (.iinc 4 1, 3) := by decide +kernel
theorem dX5_look_20 : decode cX5_look 20 = .ok (.goto (-17), 3) := by decide +kernel
theorem dX5_look_23 : decode cX5_look 23 = .ok (.iconst 0, 1) := by decide +kernel
theorem dX5_look_24 : decode cX5_look 24 = .ok (.istore 4, 2) := by decide +kernel
theorem dX5_look_26 : decode cX5_look 26 = .ok (.iload 4, 2) := by decide +kernel
theorem dX5_look_28 : decode cX5_look 28 = .ok (.aload_n 0, 1) := by decide +kernel
theorem dX5_look_29 : decode cX5_look 29 = .ok (.getfield 110, 3) := by decide +kernel
theorem dX5_look_32 : decode cX5_look 32 = .ok (.if_icmp .ge 175, 3) := by decide +kernel
theorem dX5_look_35 : decode cX5_look 35 = .ok (.iload 4, 2) := by decide +kernel
theorem dX5_look_37 : decode cX5_look 37 = .ok (.iload_n 3, 1) := by decide +kernel
theorem dX5_look_38 : decode cX5_look 38 = .ok (.if_icmp .gt 169, 3) := by decide +kernel
theorem dX5_look_41 : decode cX5_look 41 = .ok (.aload_n 0, 1) := by decide +kernel
theorem dX5_look_42 : decode cX5_look 42 = .ok (.getfield 22, 3) := by decide +kernel
theorem dX5_look_45 : decode cX5_look 45 = .ok (.iload 4, 2) := by decide +kernel
theorem dX5_look_47 : decode cX5_look 47 = .ok (.iaload, 1) := by decide +kernel
theorem dX5_look_48 : decode cX5_look 48 = .ok (.iload_n 1, 1) := by decide +kernel
theorem dX5_look_49 : decode cX5_look 49 = .ok (.if_icmp .ne 18, 3) := by decide +kernel
theorem dX5_look_52 : decode cX5_look 52 = .ok (.aload_n 0, 1) := by decide +kernel
theorem dX5_look_53 : decode cX5_look 53 = .ok (.getfield 25, 3) := by decide +kernel
theorem dX5_look_56 : decode cX5_look 56 = .ok (.iload 4, 2) := by decide +kernel
theorem dX5_look_58 : decode cX5_look 58 = .ok (.iaload, 1) := by decide +kernel
theorem dX5_look_59 : decode cX5_look 59 = .ok (.iload_n 2, 1) := by decide +kernel
theorem dX5_look_60 : decode cX5_look 60 = .ok (.if_icmp .gt 7, 3) := by decide +kernel
theorem dX5_look_63 : decode cX5_look 63 = .ok (.iconst 1, 1) := by decide +kernel
theorem dX5_look_64 : decode cX5_look 64 = .ok (.goto 4, 3) := by decide +kernel
theorem dX5_look_67 : decode cX5_look 67 = .ok (.iconst 0, 1) := by decide +kernel
theorem dX5_look_68 : decode cX5_look 68 = .ok (.istore 5, 2) := by decide +kernel
theorem dX5_look_70 : decode cX5_look 70 = .ok (.iconst 0, 1) := by decide +kernel
theorem dX5_look_71 : decode cX5_look 71 = .ok (.istore 6, 2) := by decide +kernel
theorem dX5_look_73 : decode cX5_look 73 = .ok (.iload 6, 2) := by decide +kernel
theorem dX5_look_75 : decode cX5_look 75 = .ok (.iconst 4, 1) := by decide +kernel
theorem dX5_look_76 : decode cX5_look 76 = .ok (.if_icmp .ge 125, 3) := by decide +kernel
theorem dX5_look_79 : decode cX5_look 79 = .ok (.iload 5, 2) := by decide +kernel
theorem dX5_look_81 : decode cX5_look 81 = .ok (.ifCond .eq 120, 3) := by decide +kernel
theorem dX5_look_84 : decode cX5_look 84 = .ok (.iload 6, 2) := by decide +kernel
theorem dX5_look_86 : decode cX5_look 86 = .ok (.iconst 3, 1) := by decide +kernel
theorem dX5_look_87 : decode cX5_look 87 = .ok (.if_icmp .ne 22, 3) := by decide +kernel
theorem dX5_look_90 : decode cX5_look 90 = .ok (.aload_n 0, 1) := by decide +kernel
theorem dX5_look_91 : decode cX5_look 91 = .ok (.getfield 19, 3) := by decide +kernel
theorem dX5_look_94 : decode cX5_look 94 = .ok (.iload 4, 2) := by decide +kernel
theorem dX5_look_96 : decode cX5_look 96 = .ok (.iaload, 1) := by decide +kernel
theorem dX5_look_97 : decode cX5_look 97 = .ok (.iconst 1, 1) := by decide +kernel
theorem dX5_look_98 : decode cX5_look 98 = .ok (.if_icmp .le 7, 3) := by decide +kernel
theorem dX5_look_101 : decode cX5_look 101 = .ok (.iconst 1, 1) := by decide +kernel
theorem dX5_look_102 : decode cX5_look 102 = .ok (.goto 45, 3) := by decide +kernel
theorem dX5_look_105 : decode cX5_look 105 = .ok (.iconst 0, 1) := by decide +kernel
theorem dX5_look_106 : decode cX5_look 106 = .ok (.goto 41, 3) := by decide +kernel
theorem dX5_look_109 : decode cX5_look 109 = .ok (.aload_n 0, 1) := by decide +kernel
theorem dX5_look_110 : decode cX5_look 110 = .ok (.getfield 19, 3) := by decide +kernel
theorem dX5_look_113 : decode cX5_look 113 = .ok (.iload 4, 2) := by decide +kernel
theorem dX5_look_115 : decode cX5_look 115 = .ok (.iaload, 1) := by decide +kernel
theorem dX5_look_116 : decode cX5_look 116 = .ok (.ifCond .eq 26, 3) := by decide +kernel
theorem dX5_look_119 : decode cX5_look 119 = .ok (.aload_n 0, 1) := by decide +kernel
theorem dX5_look_120 : decode cX5_look 120 = .ok (.getfield 19, 3) := by decide +kernel
theorem dX5_look_123 : decode cX5_look 123 = .ok (.iload 4, 2) := by decide +kernel
theorem dX5_look_125 : decode cX5_look 125 = .ok (.iaload, 1) := by decide +kernel
theorem dX5_look_126 : decode cX5_look 126 = .ok (.iconst 1, 1) := by decide +kernel
theorem dX5_look_127 : decode cX5_look 127 = .ok (.if_icmp .ne 19, 3) := by decide +kernel
theorem dX5_look_130 : decode cX5_look 130 = .ok (.aload_n 0, 1) := by decide +kernel
theorem dX5_look_131 : decode cX5_look 131 = .ok (.getfield 28, 3) := by decide +kernel
theorem dX5_look_134 : decode cX5_look 134 = .ok (.iload 4, 2) := by decide +kernel
theorem dX5_look_136 : decode cX5_look 136 = .ok (.iaload, 1) := by decide +kernel
theorem dX5_look_137 : decode cX5_look 137 = .ok (.iload 6, 2) := by decide +kernel
theorem dX5_look_139 : decode cX5_look 139 = .ok (.if_icmp .ne 7, 3) := by decide +kernel
theorem dX5_look_142 : decode cX5_look 142 = .ok (.iconst 1, 1) := by decide +kernel
theorem dX5_look_143 : decode cX5_look 143 = .ok (.goto 4, 3) := by decide +kernel
theorem dX5_look_146 : decode cX5_look 146 = .ok (.iconst 0, 1) := by decide +kernel
theorem dX5_look_147 : decode cX5_look 147 = .ok (.istore 7, 2) := by decide +kernel
theorem dX5_look_149 : decode cX5_look 149 = .ok (.iload 7, 2) := by decide +kernel
theorem dX5_look_151 : decode cX5_look 151 = .ok (.ifCond .eq 44, 3) := by decide +kernel
theorem dX5_look_154 : decode cX5_look 154 = .ok (.aload_n 0, 1) := by decide +kernel
theorem dX5_look_155 : decode cX5_look 155 = .ok (.getfield 34, 3) := by decide +kernel
theorem dX5_look_158 : decode cX5_look 158 = .ok (.iload 6, 2) := by decide +kernel
theorem dX5_look_160 : decode cX5_look 160 = .ok (.iaload, 1) := by decide +kernel
theorem dX5_look_161 : decode cX5_look 161 = .ok (.ifCond .lt 25, 3) := by decide +kernel
theorem dX5_look_164 : decode cX5_look 164 = .ok (.aload_n 0, 1) := by decide +kernel
theorem dX5_look_165 : decode cX5_look 165 = .ok (.getfield 25, 3) := by decide +kernel
theorem dX5_look_168 : decode cX5_look 168 = .ok (.iload 4, 2) := by decide +kernel
theorem dX5_look_170 : decode cX5_look 170 = .ok (.iaload, 1) := by decide +kernel
theorem dX5_look_171 : decode cX5_look 171 = .ok (.aload_n 0, 1) := by decide +kernel
theorem dX5_look_172 : decode cX5_look 172 = .ok (.getfield 25, 3) := by decide +kernel
theorem dX5_look_175 : decode cX5_look 175 = .ok (.aload_n 0, 1) := by decide +kernel
theorem dX5_look_176 : decode cX5_look 176 = .ok (.getfield 34, 3) := by decide +kernel
theorem dX5_look_179 : decode cX5_look 179 = .ok (.iload 6, 2) := by decide +kernel
theorem dX5_look_181 : decode cX5_look 181 = .ok (.iaload, 1) := by decide +kernel
theorem dX5_look_182 : decode cX5_look 182 = .ok (.iaload, 1) := by decide +kernel
theorem dX5_look_183 : decode cX5_look 183 = .ok (.if_icmp .lt 12, 3) := by decide +kernel
theorem dX5_look_186 : decode cX5_look 186 = .ok (.aload_n 0, 1) := by decide +kernel
theorem dX5_look_187 : decode cX5_look 187 = .ok (.getfield 34, 3) := by decide +kernel
theorem dX5_look_190 : decode cX5_look 190 = .ok (.iload 6, 2) := by decide +kernel
theorem dX5_look_192 : decode cX5_look 192 = .ok (.iload 4, 2) := by decide +kernel
theorem dX5_look_194 : decode cX5_look 194 = .ok (.iastore, 1) := by decide +kernel
theorem dX5_look_195 : decode cX5_look 195 = .ok (.iinc 6 1, 3) := by decide +kernel
theorem dX5_look_198 : decode cX5_look 198 = .ok (.goto (-125), 3) := by decide +kernel
theorem dX5_look_201 : decode cX5_look 201 = .ok (.iinc 4 1, 3) := by decide +kernel
theorem dX5_look_204 : decode cX5_look 204 = .ok (.goto (-178), 3) := by decide +kernel
theorem dX5_look_207 : decode cX5_look 207 = .ok (.return_, 1) := by decide +kernel
theorem dX5_known_0 : decode cX5_known 0 = .ok (.aload_n 0, 1) := by decide +kernel
theorem dX5_known_1 : decode cX5_known 1 = .ok (.getfield 34, 3) := by decide +kernel
theorem dX5_known_4 : decode cX5_known 4 = .ok (.iload_n 1, 1) := by decide +kernel
theorem dX5_known_5 : decode cX5_known 5 = .ok (.iaload, 1) := by decide +kernel
theorem dX5_known_6 : decode cX5_known 6 = .ok (.istore_n 2, 1) := by decide +kernel
theorem dX5_known_7 : decode cX5_known 7 = .ok (.iload_n 2, 1) := by decide +kernel
theorem dX5_known_8 : decode cX5_known 8 = .ok (.ifCond .ge 5, 3) := by decide +kernel
theorem dX5_known_11 : decode cX5_known 11 = .ok (.iconst 0, 1) := by decide +kernel
theorem dX5_known_12 : decode cX5_known 12 = .ok (.ireturn, 1) := by decide +kernel
theorem dX5_known_13 : decode cX5_known 13 = .ok (.aload_n 0, 1) := by decide +kernel
theorem dX5_known_14 : decode cX5_known 14 = .ok (.getfield 19, 3) := by decide +kernel
theorem dX5_known_17 : decode cX5_known 17 = .ok (.iload_n 2, 1) := by decide +kernel
theorem dX5_known_18 : decode cX5_known 18 = .ok (.iaload, 1) := by decide +kernel
theorem dX5_known_19 : decode cX5_known 19 = .ok (.iconst 1, 1) := by decide +kernel
theorem dX5_known_20 : decode cX5_known 20 = .ok (.if_icmp .ne 10, 3) := by decide +kernel
theorem dX5_known_23 : decode cX5_known 23 = .ok (.aload_n 0, 1) := by decide +kernel
theorem dX5_known_24 : decode cX5_known 24 = .ok (.getfield 31, 3) := by decide +kernel
theorem dX5_known_27 : decode cX5_known 27 = .ok (.iload_n 2, 1) := by decide +kernel
theorem dX5_known_28 : decode cX5_known 28 = .ok (.iaload, 1) := by decide +kernel
theorem dX5_known_29 : decode cX5_known 29 = .ok (.ireturn, 1) := by decide +kernel
theorem dX5_known_30 : decode cX5_known 30 = .ok (.iload_n 1, 1) := by decide +kernel
theorem dX5_known_31 : decode cX5_known 31 = .ok (.ifCond .ne 15, 3) := by decide +kernel
theorem dX5_known_34 : decode cX5_known 34 = .ok (.aload_n 0, 1) := by decide +kernel
theorem dX5_known_35 : decode cX5_known 35 = .ok (.getfield 31, 3) := by decide +kernel
theorem dX5_known_38 : decode cX5_known 38 = .ok (.iload_n 2, 1) := by decide +kernel
theorem dX5_known_39 : decode cX5_known 39 = .ok (.iaload, 1) := by decide +kernel
theorem dX5_known_40 : decode cX5_known 40 = .ok (.ldc 113, 2) := by decide +kernel
theorem dX5_known_42 : decode cX5_known 42 = .ok (.idiv, 1) := by decide +kernel
theorem dX5_known_43 : decode cX5_known 43 = .ok (.goto 35, 3) := by decide +kernel
theorem dX5_known_46 : decode cX5_known 46 = .ok (.iload_n 1, 1) := by decide +kernel
theorem dX5_known_47 : decode cX5_known 47 = .ok (.iconst 1, 1) := by decide +kernel
theorem dX5_known_48 : decode cX5_known 48 = .ok (.if_icmp .ne 20, 3) := by decide +kernel
theorem dX5_known_51 : decode cX5_known 51 = .ok (.aload_n 0, 1) := by decide +kernel
theorem dX5_known_52 : decode cX5_known 52 = .ok (.getfield 31, 3) := by decide +kernel
theorem dX5_known_55 : decode cX5_known 55 = .ok (.iload_n 2, 1) := by decide +kernel
theorem dX5_known_56 : decode cX5_known 56 = .ok (.iaload, 1) := by decide +kernel
theorem dX5_known_57 : decode cX5_known 57 = .ok (.sipush 1000, 3) := by decide +kernel
theorem dX5_known_60 : decode cX5_known 60 = .ok (.idiv, 1) := by decide +kernel
theorem dX5_known_61 : decode cX5_known 61 = .ok (.sipush 1000, 3) := by decide +kernel
theorem dX5_known_64 : decode cX5_known 64 = .ok (.irem, 1) := by decide +kernel
theorem dX5_known_65 : decode cX5_known 65 = .ok (.goto 13, 3) := by decide +kernel
theorem dX5_known_68 : decode cX5_known 68 = .ok (.aload_n 0, 1) := by decide +kernel
theorem dX5_known_69 : decode cX5_known 69 = .ok (.getfield 31, 3) := by decide +kernel
theorem dX5_known_72 : decode cX5_known 72 = .ok (.iload_n 2, 1) := by decide +kernel
theorem dX5_known_73 : decode cX5_known 73 = .ok (.iaload, 1) := by decide +kernel
theorem dX5_known_74 : decode cX5_known 74 = .ok (.sipush 1000, 3) := by decide +kernel
theorem dX5_known_77 : decode cX5_known 77 = .ok (.irem, 1) := by decide +kernel
theorem dX5_known_78 : decode cX5_known 78 = .ok (.ireturn, 1) := by decide +kernel
set_option maxRecDepth 20000 in
theorem ggX5_bound_X5_look : GoodIn wsX5_bound wsX5_look := goodIn_r _ [6, 1, 7, 8, 9, 10, 11, 12, 13, 14, 15, 16, 17, 18, 19, 20, 21, 22, 23, 24, 25, 26, 27, 28, 29, 30, 31, 32, 33, 34, 35, 36, 37, 38, 39, 40, 41, 42] (by decide +kernel) (by decide +kernel)
set_option maxRecDepth 20000 in
theorem gX5_bound_X5_look : GoodIn wsX5_bound (wsV RX5 114 RX5 yX5_look wsX5_look) := goodIn_app (goodIn_of _ (by decide +kernel)) ggX5_bound_X5_look
theorem dX5_bound_0 : decode cX5_bound 0 = .ok (.aload_n 0, 1) := by decide +kernel
theorem dX5_bound_1 : decode cX5_bound 1 = .ok (.iload_n 1, 1) := by decide +kernel
theorem dX5_bound_2 : decode cX5_bound 2 = .ok (.sipush 999, 3) := by decide +kernel
theorem dX5_bound_5 : decode cX5_bound 5 = .ok (.iload_n 2, 1) := by decide +kernel
theorem dX5_bound_6 : decode cX5_bound 6 = .ok (.invokevirtual 114, 3) := by decide +kernel
theorem dX5_bound_9 : decode cX5_bound 9 = .ok (.aload_n 0, 1) := by decide +kernel
theorem dX5_bound_10 : decode cX5_bound 10 = .ok (.getfield 34, 3) := by decide +kernel
theorem dX5_bound_13 : decode cX5_bound 13 = .ok (.iconst 0, 1) := by decide +kernel
theorem dX5_bound_14 : decode cX5_bound 14 = .ok (.iaload, 1) := by decide +kernel
theorem dX5_bound_15 : decode cX5_bound 15 = .ok (.ifCond .lt 7, 3) := by decide +kernel
theorem dX5_bound_18 : decode cX5_bound 18 = .ok (.iconst 1, 1) := by decide +kernel
theorem dX5_bound_19 : decode cX5_bound 19 = .ok (.goto 4, 3) := by decide +kernel
theorem dX5_bound_22 : decode cX5_bound 22 = .ok (.iconst 0, 1) := by decide +kernel
theorem dX5_bound_23 : decode cX5_bound 23 = .ok (.ireturn, 1) := by decide +kernel
theorem dX5_runs_0 : decode cX5_runs 0 = .ok (.aload_n 0, 1) := by decide +kernel
theorem dX5_runs_1 : decode cX5_runs 1 = .ok (.getfield 34, 3) := by decide +kernel
theorem dX5_runs_4 : decode cX5_runs 4 = .ok (.iconst 0, 1) := by decide +kernel
theorem dX5_runs_5 : decode cX5_runs 5 = .ok (.iaload, 1) := by decide +kernel
theorem dX5_runs_6 : decode cX5_runs 6 = .ok (.ifCond .lt 31, 3) := by decide +kernel
