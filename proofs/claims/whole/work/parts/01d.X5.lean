theorem dX5_init_0 : decode cX5_init 0 = .ok (.aload_n 0, 1) := by decide +kernel
theorem dX5_init_1 : decode cX5_init 1 = .ok (.invokespecial 1, 3) := by decide +kernel
theorem dX5_init_4 : decode cX5_init 4 = .ok (.aload_n 0, 1) := by decide +kernel
theorem dX5_init_5 : decode cX5_init 5 = .ok (.bipush 40, 2) := by decide +kernel
theorem dX5_init_7 : decode cX5_init 7 = .ok (.newarray .int, 2) := by decide +kernel
theorem dX5_init_9 : decode cX5_init 9 = .ok (.putfield 7, 3) := by decide +kernel
theorem dX5_init_12 : decode cX5_init 12 = .ok (.aload_n 0, 1) := by decide +kernel
theorem dX5_init_13 : decode cX5_init 13 = .ok (.bipush 6, 2) := by decide +kernel
theorem dX5_init_15 : decode cX5_init 15 = .ok (.newarray .int, 2) := by decide +kernel
theorem dX5_init_17 : decode cX5_init 17 = .ok (.putfield 13, 3) := by decide +kernel
theorem dX5_init_20 : decode cX5_init 20 = .ok (.aload_n 0, 1) := by decide +kernel
theorem dX5_init_21 : decode cX5_init 21 = .ok (.bipush 6, 2) := by decide +kernel
theorem dX5_init_23 : decode cX5_init 23 = .ok (.newarray .int, 2) := by decide +kernel
theorem dX5_init_25 : decode cX5_init 25 = .ok (.putfield 16, 3) := by decide +kernel
theorem dX5_init_28 : decode cX5_init 28 = .ok (.aload_n 0, 1) := by decide +kernel
theorem dX5_init_29 : decode cX5_init 29 = .ok (.bipush 40, 2) := by decide +kernel
theorem dX5_init_31 : decode cX5_init 31 = .ok (.newarray .int, 2) := by decide +kernel
theorem dX5_init_33 : decode cX5_init 33 = .ok (.putfield 19, 3) := by decide +kernel
theorem dX5_init_36 : decode cX5_init 36 = .ok (.aload_n 0, 1) := by decide +kernel
theorem dX5_init_37 : decode cX5_init 37 = .ok (.bipush 40, 2) := by decide +kernel
theorem dX5_init_39 : decode cX5_init 39 = .ok (.newarray .int, 2) := by decide +kernel
theorem dX5_init_41 : decode cX5_init 41 = .ok (.putfield 22, 3) := by decide +kernel
theorem dX5_init_44 : decode cX5_init 44 = .ok (.aload_n 0, 1) := by decide +kernel
theorem dX5_init_45 : decode cX5_init 45 = .ok (.bipush 40, 2) := by decide +kernel
theorem dX5_init_47 : decode cX5_init 47 = .ok (.newarray .int, 2) := by decide +kernel
theorem dX5_init_49 : decode cX5_init 49 = .ok (.putfield 25, 3) := by decide +kernel
theorem dX5_init_52 : decode cX5_init 52 = .ok (.aload_n 0, 1) := by decide +kernel
theorem dX5_init_53 : decode cX5_init 53 = .ok (.bipush 40, 2) := by decide +kernel
theorem dX5_init_55 : decode cX5_init 55 = .ok (.newarray .int, 2) := by decide +kernel
theorem dX5_init_57 : decode cX5_init 57 = .ok (.putfield 28, 3) := by decide +kernel
theorem dX5_init_60 : decode cX5_init 60 = .ok (.aload_n 0, 1) := by decide +kernel
theorem dX5_init_61 : decode cX5_init 61 = .ok (.bipush 40, 2) := by decide +kernel
theorem dX5_init_63 : decode cX5_init 63 = .ok (.newarray .int, 2) := by decide +kernel
theorem dX5_init_65 : decode cX5_init 65 = .ok (.putfield 31, 3) := by decide +kernel
theorem dX5_init_68 : decode cX5_init 68 = .ok (.aload_n 0, 1) := by decide +kernel
theorem dX5_init_69 : decode cX5_init 69 = .ok (.iconst 4, 1) := by decide +kernel
theorem dX5_init_70 : decode cX5_init 70 = .ok (.newarray .int, 2) := by decide +kernel
theorem dX5_init_72 : decode cX5_init 72 = .ok (.putfield 34, 3) := by decide +kernel
theorem dX5_init_75 : decode cX5_init 75 = .ok (.aload_n 0, 1) := by decide +kernel
theorem dX5_init_76 : decode cX5_init 76 = .ok (.bipush 90, 2) := by decide +kernel
theorem dX5_init_78 : decode cX5_init 78 = .ok (.newarray .int, 2) := by decide +kernel
theorem dX5_init_80 : decode cX5_init 80 = .ok (.putfield 37, 3) := by decide +kernel
theorem dX5_init_83 : decode cX5_init 83 = .ok (.aload_n 0, 1) := by decide +kernel
theorem dX5_init_84 : decode cX5_init 84 = .ok (.bipush 90, 2) := by decide +kernel
theorem dX5_init_86 : decode cX5_init 86 = .ok (.newarray .int, 2) := by decide +kernel
theorem dX5_init_88 : decode cX5_init 88 = .ok (.putfield 40, 3) := by decide +kernel
theorem dX5_init_91 : decode cX5_init 91 = .ok (.aload_n 0, 1) := by decide +kernel
theorem dX5_init_92 : decode cX5_init 92 = .ok (.bipush 90, 2) := by decide +kernel
theorem dX5_init_94 : decode cX5_init 94 = .ok (.newarray .int, 2) := by decide +kernel
theorem dX5_init_96 : decode cX5_init 96 = .ok (.putfield 43, 3) := by decide +kernel
theorem dX5_init_99 : decode cX5_init 99 = .ok (.aload_n 0, 1) := by decide +kernel
theorem dX5_init_100 : decode cX5_init 100 = .ok (.iconst 3, 1) := by decide +kernel
theorem dX5_init_101 : decode cX5_init 101 = .ok (.newarray .int, 2) := by decide +kernel
theorem dX5_init_103 : decode cX5_init 103 = .ok (.putfield 46, 3) := by decide +kernel
theorem dX5_init_106 : decode cX5_init 106 = .ok (.aload_n 0, 1) := by decide +kernel
theorem dX5_init_107 : decode cX5_init 107 = .ok (.iconst 3, 1) := by decide +kernel
theorem dX5_init_108 : decode cX5_init 108 = .ok (.newarray .int, 2) := by decide +kernel
theorem dX5_init_110 : decode cX5_init 110 = .ok (.putfield 49, 3) := by decide +kernel
theorem dX5_init_113 : decode cX5_init 113 = .ok (.aload_n 0, 1) := by decide +kernel
theorem dX5_init_114 : decode cX5_init 114 = .ok (.iconst 3, 1) := by decide +kernel
theorem dX5_init_115 : decode cX5_init 115 = .ok (.newarray .int, 2) := by decide +kernel
theorem dX5_init_117 : decode cX5_init 117 = .ok (.putfield 52, 3) := by decide +kernel
theorem dX5_init_120 : decode cX5_init 120 = .ok (.aload_n 0, 1) := by decide +kernel
theorem dX5_init_121 : decode cX5_init 121 = .ok (.sipush 9999, 3) := by decide +kernel
theorem dX5_init_124 : decode cX5_init 124 = .ok (.putfield 55, 3) := by decide +kernel
theorem dX5_init_127 : decode cX5_init 127 = .ok (.aload_n 0, 1) := by decide +kernel
theorem dX5_init_128 : decode cX5_init 128 = .ok (.sipush 9999, 3) := by decide +kernel
theorem dX5_init_131 : decode cX5_init 131 = .ok (.putfield 59, 3) := by decide +kernel
theorem dX5_init_134 : decode cX5_init 134 = .ok (.aload_n 0, 1) := by decide +kernel
theorem dX5_init_135 : decode cX5_init 135 = .ok (.sipush 9999, 3) := by decide +kernel
theorem dX5_init_138 : decode cX5_init 138 = .ok (.putfield 62, 3) := by decide +kernel
theorem dX5_init_141 : decode cX5_init 141 = .ok (.aload_n 0, 1) := by decide +kernel
theorem dX5_init_142 : decode cX5_init 142 = .ok (.bipush 120, 2) := by decide +kernel
theorem dX5_init_144 : decode cX5_init 144 = .ok (.newarray .int, 2) := by decide +kernel
theorem dX5_init_146 : decode cX5_init 146 = .ok (.putfield 65, 3) := by decide +kernel
theorem dX5_init_149 : decode cX5_init 149 = .ok (.return_, 1) := by decide +kernel
theorem dX5_thrown_0 : decode cX5_thrown 0 = .ok (.aload_n 0, 1) := by decide +kernel
theorem dX5_thrown_1 : decode cX5_thrown 1 = .ok (.getfield 68, 3) := by decide +kernel
theorem dX5_thrown_4 : decode cX5_thrown 4 = .ok (.ireturn, 1) := by decide +kernel
theorem dX5_outside_0 : decode cX5_outside 0 = .ok (.iload_n 0, 1) := by decide +kernel
theorem dX5_outside_1 : decode cX5_outside 1 = .ok (.iload_n 1, 1) := by decide +kernel
theorem dX5_outside_2 : decode cX5_outside 2 = .ok (.if_icmp .lt 8, 3) := by decide +kernel
theorem dX5_outside_5 : decode cX5_outside 5 = .ok (.iload_n 0, 1) := by decide +kernel
theorem dX5_outside_6 : decode cX5_outside 6 = .ok (.iload_n 2, 1) := by decide +kernel
theorem dX5_outside_7 : decode cX5_outside 7 = .ok (.if_icmp .le 7, 3) := by decide +kernel
theorem dX5_outside_10 : decode cX5_outside 10 = .ok (.iconst 1, 1) := by decide +kernel
theorem dX5_outside_11 : decode cX5_outside 11 = .ok (.goto 4, 3) := by decide +kernel
theorem dX5_outside_14 : decode cX5_outside 14 = .ok (.iconst 0, 1) := by decide +kernel
theorem dX5_outside_15 : decode cX5_outside 15 = .ok (.ireturn, 1) := by decide +kernel
theorem dX5_fails_0 : decode cX5_fails 0 = .ok (.aload_n 0, 1) := by decide +kernel
theorem dX5_fails_1 : decode cX5_fails 1 = .ok (.iload_n 1, 1) := by decide +kernel
theorem dX5_fails_2 : decode cX5_fails 2 = .ok (.ifCond .eq 7, 3) := by decide +kernel
theorem dX5_fails_5 : decode cX5_fails 5 = .ok (.iconst 1, 1) := by decide +kernel
theorem dX5_fails_6 : decode cX5_fails 6 = .ok (.goto 20, 3) := by decide +kernel
theorem dX5_fails_9 : decode cX5_fails 9 = .ok (.iload_n 2, 1) := by decide +kernel
theorem dX5_fails_10 : decode cX5_fails 10 = .ok (.ifCond .eq 7, 3) := by decide +kernel
theorem dX5_fails_13 : decode cX5_fails 13 = .ok (.iconst 2, 1) := by decide +kernel
theorem dX5_fails_14 : decode cX5_fails 14 = .ok (.goto 12, 3) := by decide +kernel
theorem dX5_fails_17 : decode cX5_fails 17 = .ok (.iload_n 3, 1) := by decide +kernel
theorem dX5_fails_18 : decode cX5_fails 18 = .ok (.ifCond .eq 7, 3) := by decide +kernel
theorem dX5_fails_21 : decode cX5_fails 21 = .ok (.iconst 3, 1) := by decide +kernel
theorem dX5_fails_22 : decode cX5_fails 22 = .ok (.goto 4, 3) := by decide +kernel
theorem dX5_fails_25 : decode cX5_fails 25 = .ok (.iconst 0, 1) := by decide +kernel
theorem dX5_fails_26 : decode cX5_fails 26 = .ok (.putfield 68, 3) := by decide +kernel
theorem dX5_fails_29 : decode cX5_fails 29 = .ok (.aload_n 0, 1) := by decide +kernel
theorem dX5_fails_30 : decode cX5_fails 30 = .ok (.getfield 68, 3) := by decide +kernel
theorem dX5_fails_33 : decode cX5_fails 33 = .ok (.ifCond .le 7, 3) := by decide +kernel
theorem dX5_fails_36 : decode cX5_fails 36 = .ok (.iconst 1, 1) := by decide +kernel
theorem dX5_fails_37 : decode cX5_fails 37 = .ok (.goto 4, 3) := by decide +kernel
theorem dX5_fails_40 : decode cX5_fails 40 = .ok (.iconst 0, 1) := by decide +kernel
theorem dX5_fails_41 : decode cX5_fails 41 = .ok (.ireturn, 1) := by decide +kernel
theorem dX5_down_0 : decode cX5_down 0 = .ok (.iload_n 0, 1) := by decide +kernel
theorem dX5_down_1 : decode cX5_down 1 = .ok (.iload_n 1, 1) := by decide +kernel
theorem dX5_down_2 : decode cX5_down 2 = .ok (.idiv, 1) := by decide +kernel
theorem dX5_down_3 : decode cX5_down 3 = .ok (.istore_n 2, 1) := by decide +kernel
theorem dX5_down_4 : decode cX5_down 4 = .ok (.iload_n 0, 1) := by decide +kernel
theorem dX5_down_5 : decode cX5_down 5 = .ok (.iload_n 1, 1) := by decide +kernel
theorem dX5_down_6 : decode cX5_down 6 = .ok (.irem, 1) := by decide +kernel
theorem dX5_down_7 : decode cX5_down 7 = .ok (.ifCond .ge 9, 3) := by decide +kernel
theorem dX5_down_10 : decode cX5_down 10 = .ok (.iload_n 2, 1) := by decide +kernel
theorem dX5_down_11 : decode cX5_down 11 = .ok (.iconst 1, 1) := by decide +kernel
theorem dX5_down_12 : decode cX5_down 12 = .ok (.isub, 1) := by decide +kernel
theorem dX5_down_13 : decode cX5_down 13 = .ok (.goto 4, 3) := by decide +kernel
theorem dX5_down_16 : decode cX5_down 16 = .ok (.iload_n 2, 1) := by decide +kernel
theorem dX5_down_17 : decode cX5_down 17 = .ok (.ireturn, 1) := by decide +kernel
theorem dX5_least_0 : decode cX5_least 0 = .ok (.iload_n 0, 1) := by decide +kernel
theorem dX5_least_1 : decode cX5_least 1 = .ok (.iload_n 1, 1) := by decide +kernel
theorem dX5_least_2 : decode cX5_least 2 = .ok (.if_icmp .ge 7, 3) := by decide +kernel
theorem dX5_least_5 : decode cX5_least 5 = .ok (.iload_n 0, 1) := by decide +kernel
theorem dX5_least_6 : decode cX5_least 6 = .ok (.goto 4, 3) := by decide +kernel
theorem dX5_least_9 : decode cX5_least 9 = .ok (.iload_n 1, 1) := by decide +kernel
theorem dX5_least_10 : decode cX5_least 10 = .ok (.ireturn, 1) := by decide +kernel
theorem dX5_row_0 : decode cX5_row 0 = .ok (.iload_n 1, 1) := by decide +kernel
theorem dX5_row_1 : decode cX5_row 1 = .ok (.ifCond .lt 42, 3) := by decide +kernel
theorem dX5_row_4 : decode cX5_row 4 = .ok (.iload_n 2, 1) := by decide +kernel
theorem dX5_row_5 : decode cX5_row 5 = .ok (.bipush 49, 2) := by decide +kernel
theorem dX5_row_7 : decode cX5_row 7 = .ok (.if_icmp .gt 36, 3) := by decide +kernel
theorem dX5_row_10 : decode cX5_row 10 = .ok (.iload_n 1, 1) := by decide +kernel
theorem dX5_row_11 : decode cX5_row 11 = .ok (.iload_n 2, 1) := by decide +kernel
theorem dX5_row_12 : decode cX5_row 12 = .ok (.if_icmp .gt 31, 3) := by decide +kernel
theorem dX5_row_15 : decode cX5_row 15 = .ok (.iload_n 3, 1) := by decide +kernel
theorem dX5_row_16 : decode cX5_row 16 = .ok (.ifCond .lt 27, 3) := by decide +kernel
theorem dX5_row_19 : decode cX5_row 19 = .ok (.iload 4, 2) := by decide +kernel
theorem dX5_row_21 : decode cX5_row 21 = .ok (.bipush 9, 2) := by decide +kernel
theorem dX5_row_23 : decode cX5_row 23 = .ok (.if_icmp .gt 20, 3) := by decide +kernel
theorem dX5_row_26 : decode cX5_row 26 = .ok (.iload_n 3, 1) := by decide +kernel
theorem dX5_row_27 : decode cX5_row 27 = .ok (.iload 4, 2) := by decide +kernel
theorem dX5_row_29 : decode cX5_row 29 = .ok (.if_icmp .gt 14, 3) := by decide +kernel
theorem dX5_row_32 : decode cX5_row 32 = .ok (.iload 5, 2) := by decide +kernel
theorem dX5_row_34 : decode cX5_row 34 = .ok (.iconst 1, 1) := by decide +kernel
theorem dX5_row_35 : decode cX5_row 35 = .ok (.bipush 99, 2) := by decide +kernel
theorem dX5_row_37 : decode cX5_row 37 = .ok (.invokestatic 71, 3) := by decide +kernel
theorem dX5_row_40 : decode cX5_row 40 = .ok (.ifCond .eq 7, 3) := by decide +kernel
theorem dX5_row_43 : decode cX5_row 43 = .ok (.iconst 1, 1) := by decide +kernel
theorem dX5_row_44 : decode cX5_row 44 = .ok (.goto 4, 3) := by decide +kernel
theorem dX5_row_47 : decode cX5_row 47 = .ok (.iconst 0, 1) := by decide +kernel
theorem dX5_row_48 : decode cX5_row 48 = .ok (.istore 6, 2) := by decide +kernel
theorem dX5_row_50 : decode cX5_row 50 = .ok (.aload_n 0, 1) := by decide +kernel
theorem dX5_row_51 : decode cX5_row 51 = .ok (.aload_n 0, 1) := by decide +kernel
theorem dX5_row_52 : decode cX5_row 52 = .ok (.getfield 75, 3) := by decide +kernel
theorem dX5_row_55 : decode cX5_row 55 = .ok (.ifCond .gt 12, 3) := by decide +kernel
theorem dX5_row_58 : decode cX5_row 58 = .ok (.aload_n 0, 1) := by decide +kernel
theorem dX5_row_59 : decode cX5_row 59 = .ok (.getfield 78, 3) := by decide +kernel
theorem dX5_row_62 : decode cX5_row 62 = .ok (.bipush 8, 2) := by decide +kernel
theorem dX5_row_64 : decode cX5_row 64 = .ok (.if_icmp .ne 7, 3) := by decide +kernel
theorem dX5_row_67 : decode cX5_row 67 = .ok (.iconst 1, 1) := by decide +kernel
theorem dX5_row_68 : decode cX5_row 68 = .ok (.goto 4, 3) := by decide +kernel
theorem dX5_row_71 : decode cX5_row 71 = .ok (.iconst 0, 1) := by decide +kernel
theorem dX5_row_72 : decode cX5_row 72 = .ok (.iload 6, 2) := by decide +kernel
theorem dX5_row_74 : decode cX5_row 74 = .ok (.iconst 0, 1) := by decide +kernel
theorem dX5_row_75 : decode cX5_row 75 = .ok (.invokevirtual 81, 3) := by decide +kernel
theorem dX5_row_78 : decode cX5_row 78 = .ok (.ifCond .eq 5, 3) := by decide +kernel
theorem dX5_row_81 : decode cX5_row 81 = .ok (.iconst 0, 1) := by decide +kernel
theorem dX5_row_82 : decode cX5_row 82 = .ok (.ireturn, 1) := by decide +kernel
theorem dX5_row_83 : decode cX5_row 83 = .ok (.aload_n 0, 1) := by decide +kernel
theorem dX5_row_84 : decode cX5_row 84 = .ok (.getfield 7, 3) := by decide +kernel
theorem dX5_row_87 : decode cX5_row 87 = .ok (.iconst 5, 1) := by decide +kernel
theorem dX5_row_88 : decode cX5_row 88 = .ok (.aload_n 0, 1) := by decide +kernel
theorem dX5_row_89 : decode cX5_row 89 = .ok (.getfield 78, 3) := by decide +kernel
theorem dX5_row_92 : decode cX5_row 92 = .ok (.imul, 1) := by decide +kernel
theorem dX5_row_93 : decode cX5_row 93 = .ok (.iload_n 1, 1) := by decide +kernel
theorem dX5_row_94 : decode cX5_row 94 = .ok (.iastore, 1) := by decide +kernel
theorem dX5_row_95 : decode cX5_row 95 = .ok (.aload_n 0, 1) := by decide +kernel
theorem dX5_row_96 : decode cX5_row 96 = .ok (.getfield 7, 3) := by decide +kernel
theorem dX5_row_99 : decode cX5_row 99 = .ok (.iconst 5, 1) := by decide +kernel
theorem dX5_row_100 : decode cX5_row 100 = .ok (.aload_n 0, 1) := by decide +kernel
theorem dX5_row_101 : decode cX5_row 101 = .ok (.getfield 78, 3) := by decide +kernel
theorem dX5_row_104 : decode cX5_row 104 = .ok (.imul, 1) := by decide +kernel
theorem dX5_row_105 : decode cX5_row 105 = .ok (.iconst 1, 1) := by decide +kernel
theorem dX5_row_106 : decode cX5_row 106 = .ok (.iadd, 1) := by decide +kernel
theorem dX5_row_107 : decode cX5_row 107 = .ok (.iload_n 2, 1) := by decide +kernel
theorem dX5_row_108 : decode cX5_row 108 = .ok (.iastore, 1) := by decide +kernel
theorem dX5_row_109 : decode cX5_row 109 = .ok (.aload_n 0, 1) := by decide +kernel
theorem dX5_row_110 : decode cX5_row 110 = .ok (.getfield 7, 3) := by decide +kernel
theorem dX5_row_113 : decode cX5_row 113 = .ok (.iconst 5, 1) := by decide +kernel
theorem dX5_row_114 : decode cX5_row 114 = .ok (.aload_n 0, 1) := by decide +kernel
theorem dX5_row_115 : decode cX5_row 115 = .ok (.getfield 78, 3) := by decide +kernel
theorem dX5_row_118 : decode cX5_row 118 = .ok (.imul, 1) := by decide +kernel
theorem dX5_row_119 : decode cX5_row 119 = .ok (.iconst 2, 1) := by decide +kernel
theorem dX5_row_120 : decode cX5_row 120 = .ok (.iadd, 1) := by decide +kernel
theorem dX5_row_121 : decode cX5_row 121 = .ok (.iload_n 3, 1) := by decide +kernel
theorem dX5_row_122 : decode cX5_row 122 = .ok (.iastore, 1) := by decide +kernel
theorem dX5_row_123 : decode cX5_row 123 = .ok (.aload_n 0, 1) := by decide +kernel
theorem dX5_row_124 : decode cX5_row 124 = .ok (.getfield 7, 3) := by decide +kernel
theorem dX5_row_127 : decode cX5_row 127 = .ok (.iconst 5, 1) := by decide +kernel
theorem dX5_row_128 : decode cX5_row 128 = .ok (.aload_n 0, 1) := by decide +kernel
theorem dX5_row_129 : decode cX5_row 129 = .ok (.getfield 78, 3) := by decide +kernel
theorem dX5_row_132 : decode cX5_row 132 = .ok (.imul, 1) := by decide +kernel
theorem dX5_row_133 : decode cX5_row 133 = .ok (.iconst 3, 1) := by decide +kernel
theorem dX5_row_134 : decode cX5_row 134 = .ok (.iadd, 1) := by decide +kernel
theorem dX5_row_135 : decode cX5_row 135 = .ok (.iload 4, 2) := by decide +kernel
theorem dX5_row_137 : decode cX5_row 137 = .ok (.iastore, 1) := by decide +kernel
theorem dX5_row_138 : decode cX5_row 138 = .ok (.aload_n 0, 1) := by decide +kernel
theorem dX5_row_139 : decode cX5_row 139 = .ok (.getfield 7, 3) := by decide +kernel
theorem dX5_row_142 : decode cX5_row 142 = .ok (.iconst 5, 1) := by decide +kernel
theorem dX5_row_143 : decode cX5_row 143 = .ok (.aload_n 0, 1) := by decide +kernel
theorem dX5_row_144 : decode cX5_row 144 = .ok (.getfield 78, 3) := by decide +kernel
theorem dX5_row_147 : decode cX5_row 147 = .ok (.imul, 1) := by decide +kernel
theorem dX5_row_148 : decode cX5_row 148 = .ok (.iconst 4, 1) := by decide +kernel
theorem dX5_row_149 : decode cX5_row 149 = .ok (.iadd, 1) := by decide +kernel
theorem dX5_row_150 : decode cX5_row 150 = .ok (.iload 5, 2) := by decide +kernel
theorem dX5_row_152 : decode cX5_row 152 = .ok (.iastore, 1) := by decide +kernel
theorem dX5_row_153 : decode cX5_row 153 = .ok (.aload_n 0, 1) := by decide +kernel
theorem dX5_row_154 : decode cX5_row 154 = .ok (.dup, 1) := by decide +kernel
theorem dX5_row_155 : decode cX5_row 155 = .ok (.getfield 78, 3) := by decide +kernel
theorem dX5_row_158 : decode cX5_row 158 = .ok (.iconst 1, 1) := by decide +kernel
theorem dX5_row_159 : decode cX5_row 159 = .ok (.iadd, 1) := by decide +kernel
theorem dX5_row_160 : decode cX5_row 160 = .ok (.putfield 78, 3) := by decide +kernel
theorem dX5_row_163 : decode cX5_row 163 = .ok (.aload_n 0, 1) := by decide +kernel
theorem dX5_row_164 : decode cX5_row 164 = .ok (.getfield 78, 3) := by decide +kernel
theorem dX5_row_167 : decode cX5_row 167 = .ok (.iconst 1, 1) := by decide +kernel
theorem dX5_row_168 : decode cX5_row 168 = .ok (.isub, 1) := by decide +kernel
theorem dX5_row_169 : decode cX5_row 169 = .ok (.ireturn, 1) := by decide +kernel
theorem dX5_undo_0 : decode cX5_undo 0 = .ok (.aload_n 0, 1) := by decide +kernel
theorem dX5_undo_1 : decode cX5_undo 1 = .ok (.aload_n 0, 1) := by decide +kernel
theorem dX5_undo_2 : decode cX5_undo 2 = .ok (.getfield 75, 3) := by decide +kernel
theorem dX5_undo_5 : decode cX5_undo 5 = .ok (.ifCond .gt 10, 3) := by decide +kernel
theorem dX5_undo_8 : decode cX5_undo 8 = .ok (.aload_n 0, 1) := by decide +kernel
theorem dX5_undo_9 : decode cX5_undo 9 = .ok (.getfield 78, 3) := by decide +kernel
theorem dX5_undo_12 : decode cX5_undo 12 = .ok (.ifCond .ne 7, 3) := by decide +kernel
theorem dX5_undo_15 : decode cX5_undo 15 = .ok (.iconst 1, 1) := by decide +kernel
theorem dX5_undo_16 : decode cX5_undo 16 = .ok (.goto 4, 3) := by decide +kernel
theorem dX5_undo_19 : decode cX5_undo 19 = .ok (.iconst 0, 1) := by decide +kernel
theorem dX5_undo_20 : decode cX5_undo 20 = .ok (.iconst 0, 1) := by decide +kernel
theorem dX5_undo_21 : decode cX5_undo 21 = .ok (.iconst 0, 1) := by decide +kernel
theorem dX5_undo_22 : decode cX5_undo 22 = .ok (.invokevirtual 81, 3) := by decide +kernel
theorem dX5_undo_25 : decode cX5_undo 25 = .ok (.ifCond .ne 13, 3) := by decide +kernel
theorem dX5_undo_28 : decode cX5_undo 28 = .ok (.aload_n 0, 1) := by decide +kernel
theorem dX5_undo_29 : decode cX5_undo 29 = .ok (.dup, 1) := by decide +kernel
theorem dX5_undo_30 : decode cX5_undo 30 = .ok (.getfield 78, 3) := by decide +kernel
theorem dX5_undo_33 : decode cX5_undo 33 = .ok (.iconst 1, 1) := by decide +kernel
theorem dX5_undo_34 : decode cX5_undo 34 = .ok (.isub, 1) := by decide +kernel
theorem dX5_undo_35 : decode cX5_undo 35 = .ok (.putfield 78, 3) := by decide +kernel
theorem dX5_undo_38 : decode cX5_undo 38 = .ok (.return_, 1) := by decide +kernel
theorem dX5_matches_0 : decode cX5_matches 0 = .ok (.aload_n 0, 1) := by decide +kernel
theorem dX5_matches_1 : decode cX5_matches 1 = .ok (.getfield 7, 3) := by decide +kernel
theorem dX5_matches_4 : decode cX5_matches 4 = .ok (.iconst 5, 1) := by decide +kernel
theorem dX5_matches_5 : decode cX5_matches 5 = .ok (.iload_n 1, 1) := by decide +kernel
theorem dX5_matches_6 : decode cX5_matches 6 = .ok (.imul, 1) := by decide +kernel
theorem dX5_matches_7 : decode cX5_matches 7 = .ok (.iaload, 1) := by decide +kernel
theorem dX5_matches_8 : decode cX5_matches 8 = .ok (.iload_n 2, 1) := by decide +kernel
theorem dX5_matches_9 : decode cX5_matches 9 = .ok (.if_icmp .gt 49, 3) := by decide +kernel
theorem dX5_matches_12 : decode cX5_matches 12 = .ok (.iload_n 2, 1) := by decide +kernel
theorem dX5_matches_13 : decode cX5_matches 13 = .ok (.aload_n 0, 1) := by decide +kernel
theorem dX5_matches_14 : decode cX5_matches 14 = .ok (.getfield 7, 3) := by decide +kernel
theorem dX5_matches_17 : decode cX5_matches 17 = .ok (.iconst 5, 1) := by decide +kernel
theorem dX5_matches_18 : decode cX5_matches 18 = .ok (.iload_n 1, 1) := by decide +kernel
theorem dX5_matches_19 : decode cX5_matches 19 = .ok (.imul, 1) := by decide +kernel
theorem dX5_matches_20 : decode cX5_matches 20 = .ok (.iconst 1, 1) := by decide +kernel
theorem dX5_matches_21 : decode cX5_matches 21 = .ok (.iadd, 1) := by decide +kernel
theorem dX5_matches_22 : decode cX5_matches 22 = .ok (.iaload, 1) := by decide +kernel
theorem dX5_matches_23 : decode cX5_matches 23 = .ok (.if_icmp .gt 35, 3) := by decide +kernel
theorem dX5_matches_26 : decode cX5_matches 26 = .ok (.aload_n 0, 1) := by decide +kernel
theorem dX5_matches_27 : decode cX5_matches 27 = .ok (.getfield 7, 3) := by decide +kernel
theorem dX5_matches_30 : decode cX5_matches 30 = .ok (.iconst 5, 1) := by decide +kernel
theorem dX5_matches_31 : decode cX5_matches 31 = .ok (.iload_n 1, 1) := by decide +kernel
theorem dX5_matches_32 : decode cX5_matches 32 = .ok (.imul, 1) := by decide +kernel
theorem dX5_matches_33 : decode cX5_matches 33 = .ok (.iconst 2, 1) := by decide +kernel
theorem dX5_matches_34 : decode cX5_matches 34 = .ok (.iadd, 1) := by decide +kernel
theorem dX5_matches_35 : decode cX5_matches 35 = .ok (.iaload, 1) := by decide +kernel
theorem dX5_matches_36 : decode cX5_matches 36 = .ok (.iload_n 3, 1) := by decide +kernel
theorem dX5_matches_37 : decode cX5_matches 37 = .ok (.if_icmp .gt 21, 3) := by decide +kernel
theorem dX5_matches_40 : decode cX5_matches 40 = .ok (.iload_n 3, 1) := by decide +kernel
theorem dX5_matches_41 : decode cX5_matches 41 = .ok (.aload_n 0, 1) := by decide +kernel
theorem dX5_matches_42 : decode cX5_matches 42 = .ok (.getfield 7, 3) := by decide +kernel
theorem dX5_matches_45 : decode cX5_matches 45 = .ok (.iconst 5, 1) := by decide +kernel
theorem dX5_matches_46 : decode cX5_matches 46 = .ok (.iload_n 1, 1) := by decide +kernel
theorem dX5_matches_47 : decode cX5_matches 47 = .ok (.imul, 1) := by decide +kernel
theorem dX5_matches_48 : decode cX5_matches 48 = .ok (.iconst 3, 1) := by decide +kernel
theorem dX5_matches_49 : decode cX5_matches 49 = .ok (.iadd, 1) := by decide +kernel
theorem dX5_matches_50 : decode cX5_matches 50 = .ok (.iaload, 1) := by decide +kernel
theorem dX5_matches_51 : decode cX5_matches 51 = .ok (.if_icmp .gt 7, 3) := by decide +kernel
theorem dX5_matches_54 : decode cX5_matches 54 = .ok (.iconst 1, 1) := by decide +kernel
theorem dX5_matches_55 : decode cX5_matches 55 = .ok (.goto 4, 3) := by decide +kernel
theorem dX5_matches_58 : decode cX5_matches 58 = .ok (.iconst 0, 1) := by decide +kernel
theorem dX5_matches_59 : decode cX5_matches 59 = .ok (.ireturn, 1) := by decide +kernel
theorem dX5_flaw_0 : decode cX5_flaw 0 = .ok (.iconst 0, 1) := by decide +kernel
theorem dX5_flaw_1 : decode cX5_flaw 1 = .ok (.istore_n 1, 1) := by decide +kernel
theorem dX5_flaw_2 : decode cX5_flaw 2 = .ok (.iload_n 1, 1) := by decide +kernel
theorem dX5_flaw_3 : decode cX5_flaw 3 = .ok (.sipush 500, 3) := by decide +kernel
theorem dX5_flaw_6 : decode cX5_flaw 6 = .ok (.if_icmp .ge 58, 3) := by decide +kernel
theorem dX5_flaw_9 : decode cX5_flaw 9 = .ok (.iconst 0, 1) := by decide +kernel
theorem dX5_flaw_10 : decode cX5_flaw 10 = .ok (.istore_n 2, 1) := by decide +kernel
theorem dX5_flaw_11 : decode cX5_flaw 11 = .ok (.iconst 0, 1) := by decide +kernel
theorem dX5_flaw_12 : decode cX5_flaw 12 = .ok (.istore_n 3, 1) := by decide +kernel
theorem dX5_flaw_13 : decode cX5_flaw 13 = .ok (.iload_n 3, 1) := by decide +kernel
theorem dX5_flaw_14 : decode cX5_flaw 14 = .ok (.aload_n 0, 1) := by decide +kernel
theorem dX5_flaw_15 : decode cX5_flaw 15 = .ok (.getfield 78, 3) := by decide +kernel
theorem dX5_flaw_18 : decode cX5_flaw 18 = .ok (.if_icmp .ge 33, 3) := by decide +kernel
theorem dX5_flaw_21 : decode cX5_flaw 21 = .ok (.iload_n 2, 1) := by decide +kernel
theorem dX5_flaw_22 : decode cX5_flaw 22 = .ok (.aload_n 0, 1) := by decide +kernel
theorem dX5_flaw_23 : decode cX5_flaw 23 = .ok (.iload_n 3, 1) := by decide +kernel
theorem dX5_flaw_24 : decode cX5_flaw 24 = .ok (.iload_n 1, 1) := by decide +kernel
theorem dX5_flaw_25 : decode cX5_flaw 25 = .ok (.bipush 10, 2) := by decide +kernel
theorem dX5_flaw_27 : decode cX5_flaw 27 = .ok (.idiv, 1) := by decide +kernel
theorem dX5_flaw_28 : decode cX5_flaw 28 = .ok (.iload_n 1, 1) := by decide +kernel
theorem dX5_flaw_29 : decode cX5_flaw 29 = .ok (.bipush 10, 2) := by decide +kernel
theorem dX5_flaw_31 : decode cX5_flaw 31 = .ok (.irem, 1) := by decide +kernel
theorem dX5_flaw_32 : decode cX5_flaw 32 = .ok (.invokevirtual 85, 3) := by decide +kernel
theorem dX5_flaw_35 : decode cX5_flaw 35 = .ok (.ifCond .eq 7, 3) := by decide +kernel
theorem dX5_flaw_38 : decode cX5_flaw 38 = .ok (.iconst 1, 1) := by decide +kernel
theorem dX5_flaw_39 : decode cX5_flaw 39 = .ok (.goto 4, 3) := by decide +kernel
theorem dX5_flaw_42 : decode cX5_flaw 42 = .ok (.iconst 0, 1) := by decide +kernel
theorem dX5_flaw_43 : decode cX5_flaw 43 = .ok (.iadd, 1) := by decide +kernel
theorem dX5_flaw_44 : decode cX5_flaw 44 = .ok (.istore_n 2, 1) := by decide +kernel
theorem dX5_flaw_45 : decode cX5_flaw 45 = .ok (.iinc 3 1, 3) := by decide +kernel
theorem dX5_flaw_48 : decode cX5_flaw 48 = .ok (.goto (-35), 3) := by decide +kernel
theorem dX5_flaw_51 : decode cX5_flaw 51 = .ok (.iload_n 2, 1) := by decide +kernel
theorem dX5_flaw_52 : decode cX5_flaw 52 = .ok (.iconst 1, 1) := by decide +kernel
theorem dX5_flaw_53 : decode cX5_flaw 53 = .ok (.if_icmp .eq 5, 3) := by decide +kernel
theorem dX5_flaw_56 : decode cX5_flaw 56 = .ok (.iload_n 1, 1) := by decide +kernel
theorem dX5_flaw_57 : decode cX5_flaw 57 = .ok (.ireturn, 1) := by decide +kernel
theorem dX5_flaw_58 : decode cX5_flaw 58 = .ok (.iinc 1 1, 3) := by decide +kernel
theorem dX5_flaw_61 : decode cX5_flaw 61 = .ok (.goto (-59), 3) := by decide +kernel
theorem dX5_flaw_64 : decode cX5_flaw 64 = .ok (.iconst (-1), 1) := by decide +kernel
theorem dX5_flaw_65 : decode cX5_flaw 65 = .ok (.ireturn, 1) := by decide +kernel
theorem dX5_witness_0 : decode cX5_witness 0 = .ok (.aload_n 0, 1) := by decide +kernel
theorem dX5_witness_1 : decode cX5_witness 1 = .ok (.iconst 0, 1) := by decide +kernel
theorem dX5_witness_2 : decode cX5_witness 2 = .ok (.putfield 68, 3) := by decide +kernel
theorem dX5_witness_5 : decode cX5_witness 5 = .ok (.aload_n 0, 1) := by decide +kernel
theorem dX5_witness_6 : decode cX5_witness 6 = .ok (.invokevirtual 88, 3) := by decide +kernel
theorem dX5_witness_9 : decode cX5_witness 9 = .ok (.ireturn, 1) := by decide +kernel
theorem dX5_rate_0 : decode cX5_rate 0 = .ok (.iconst 0, 1) := by decide +kernel
theorem dX5_rate_1 : decode cX5_rate 1 = .ok (.istore_n 3, 1) := by decide +kernel
theorem dX5_rate_2 : decode cX5_rate 2 = .ok (.iconst 0, 1) := by decide +kernel
theorem dX5_rate_3 : decode cX5_rate 3 = .ok (.istore 4, 2) := by decide +kernel
theorem dX5_rate_5 : decode cX5_rate 5 = .ok (.iload 4, 2) := by decide +kernel
theorem dX5_rate_7 : decode cX5_rate 7 = .ok (.aload_n 0, 1) := by decide +kernel
theorem dX5_rate_8 : decode cX5_rate 8 = .ok (.getfield 78, 3) := by decide +kernel
theorem dX5_rate_11 : decode cX5_rate 11 = .ok (.if_icmp .ge 36, 3) := by decide +kernel
theorem dX5_rate_14 : decode cX5_rate 14 = .ok (.aload_n 0, 1) := by decide +kernel
theorem dX5_rate_15 : decode cX5_rate 15 = .ok (.iload 4, 2) := by decide +kernel
theorem dX5_rate_17 : decode cX5_rate 17 = .ok (.iload_n 1, 1) := by decide +kernel
theorem dX5_rate_18 : decode cX5_rate 18 = .ok (.iload_n 2, 1) := by decide +kernel
theorem dX5_rate_19 : decode cX5_rate 19 = .ok (.invokevirtual 85, 3) := by decide +kernel
theorem dX5_rate_22 : decode cX5_rate 22 = .ok (.ifCond .eq 17, 3) := by decide +kernel
theorem dX5_rate_25 : decode cX5_rate 25 = .ok (.aload_n 0, 1) := by decide +kernel
theorem dX5_rate_26 : decode cX5_rate 26 = .ok (.getfield 7, 3) := by decide +kernel
theorem dX5_rate_29 : decode cX5_rate 29 = .ok (.iconst 5, 1) := by decide +kernel
theorem dX5_rate_30 : decode cX5_rate 30 = .ok (.iload 4, 2) := by decide +kernel
theorem dX5_rate_32 : decode cX5_rate 32 = .ok (.imul, 1) := by decide +kernel
theorem dX5_rate_33 : decode cX5_rate 33 = .ok (.iconst 4, 1) := by decide +kernel
theorem dX5_rate_34 : decode cX5_rate 34 = .ok (.iadd, 1) := by decide +kernel
theorem dX5_rate_35 : decode cX5_rate 35 = .ok (.iaload, 1) := by decide +kernel
theorem dX5_rate_36 : decode cX5_rate 36 = .ok (.goto 4, 3) := by decide +kernel
theorem dX5_rate_39 : decode cX5_rate 39 = .ok (.iload_n 3, 1) := by decide +kernel
theorem dX5_rate_40 : decode cX5_rate 40 = .ok (.istore_n 3, 1) := by decide +kernel
theorem dX5_rate_41 : decode cX5_rate 41 = .ok (.iinc 4 1, 3) := by decide +kernel
theorem dX5_rate_44 : decode cX5_rate 44 = .ok (.goto (-39), 3) := by decide +kernel
theorem dX5_rate_47 : decode cX5_rate 47 = .ok (.iload_n 3, 1) := by decide +kernel
theorem dX5_rate_48 : decode cX5_rate 48 = .ok (.ireturn, 1) := by decide +kernel
theorem dX5_quota_0 : decode cX5_quota 0 = .ok (.aload_n 0, 1) := by decide +kernel
theorem dX5_quota_1 : decode cX5_quota 1 = .ok (.aload_n 0, 1) := by decide +kernel
theorem dX5_quota_2 : decode cX5_quota 2 = .ok (.getfield 75, 3) := by decide +kernel
theorem dX5_quota_5 : decode cX5_quota 5 = .ok (.ifCond .le 7, 3) := by decide +kernel
theorem dX5_quota_8 : decode cX5_quota 8 = .ok (.iconst 1, 1) := by decide +kernel
theorem dX5_quota_9 : decode cX5_quota 9 = .ok (.goto 4, 3) := by decide +kernel
theorem dX5_quota_12 : decode cX5_quota 12 = .ok (.iconst 0, 1) := by decide +kernel
theorem dX5_quota_13 : decode cX5_quota 13 = .ok (.iload_n 1, 1) := by decide +kernel
theorem dX5_quota_14 : decode cX5_quota 14 = .ok (.iconst 0, 1) := by decide +kernel
theorem dX5_quota_15 : decode cX5_quota 15 = .ok (.bipush 90, 2) := by decide +kernel
theorem dX5_quota_17 : decode cX5_quota 17 = .ok (.invokestatic 71, 3) := by decide +kernel
theorem dX5_quota_20 : decode cX5_quota 20 = .ok (.iconst 0, 1) := by decide +kernel
theorem dX5_quota_21 : decode cX5_quota 21 = .ok (.invokevirtual 81, 3) := by decide +kernel
theorem dX5_quota_24 : decode cX5_quota 24 = .ok (.ifCond .ne 8, 3) := by decide +kernel
theorem dX5_quota_27 : decode cX5_quota 27 = .ok (.aload_n 0, 1) := by decide +kernel
theorem dX5_quota_28 : decode cX5_quota 28 = .ok (.iload_n 1, 1) := by decide +kernel
theorem dX5_quota_29 : decode cX5_quota 29 = .ok (.putfield 92, 3) := by decide +kernel
theorem dX5_quota_32 : decode cX5_quota 32 = .ok (.return_, 1) := by decide +kernel
theorem dX5_terms_0 : decode cX5_terms 0 = .ok (.aload_n 0, 1) := by decide +kernel
theorem dX5_terms_1 : decode cX5_terms 1 = .ok (.aload_n 0, 1) := by decide +kernel
theorem dX5_terms_2 : decode cX5_terms 2 = .ok (.getfield 95, 3) := by decide +kernel
theorem dX5_terms_5 : decode cX5_terms 5 = .ok (.ifCond .le 7, 3) := by decide +kernel
theorem dX5_terms_8 : decode cX5_terms 8 = .ok (.iconst 1, 1) := by decide +kernel
theorem dX5_terms_9 : decode cX5_terms 9 = .ok (.goto 4, 3) := by decide +kernel
theorem dX5_terms_12 : decode cX5_terms 12 = .ok (.iconst 0, 1) := by decide +kernel
theorem dX5_terms_13 : decode cX5_terms 13 = .ok (.iload_n 1, 1) := by decide +kernel
theorem dX5_terms_14 : decode cX5_terms 14 = .ok (.iconst 0, 1) := by decide +kernel
theorem dX5_terms_15 : decode cX5_terms 15 = .ok (.sipush 999, 3) := by decide +kernel
theorem dX5_terms_18 : decode cX5_terms 18 = .ok (.invokestatic 71, 3) := by decide +kernel
theorem dX5_terms_21 : decode cX5_terms 21 = .ok (.ifCond .ne 25, 3) := by decide +kernel
theorem dX5_terms_24 : decode cX5_terms 24 = .ok (.iload_n 2, 1) := by decide +kernel
theorem dX5_terms_25 : decode cX5_terms 25 = .ok (.iconst 1, 1) := by decide +kernel
theorem dX5_terms_26 : decode cX5_terms 26 = .ok (.sipush 9999, 3) := by decide +kernel
theorem dX5_terms_29 : decode cX5_terms 29 = .ok (.invokestatic 71, 3) := by decide +kernel
theorem dX5_terms_32 : decode cX5_terms 32 = .ok (.ifCond .ne 14, 3) := by decide +kernel
theorem dX5_terms_35 : decode cX5_terms 35 = .ok (.iload_n 3, 1) := by decide +kernel
theorem dX5_terms_36 : decode cX5_terms 36 = .ok (.iconst 1, 1) := by decide +kernel
theorem dX5_terms_37 : decode cX5_terms 37 = .ok (.sipush 9999, 3) := by decide +kernel
theorem dX5_terms_40 : decode cX5_terms 40 = .ok (.invokestatic 71, 3) := by decide +kernel
theorem dX5_terms_43 : decode cX5_terms 43 = .ok (.ifCond .eq 7, 3) := by decide +kernel
theorem dX5_terms_46 : decode cX5_terms 46 = .ok (.iconst 1, 1) := by decide +kernel
theorem dX5_terms_47 : decode cX5_terms 47 = .ok (.goto 4, 3) := by decide +kernel
theorem dX5_terms_50 : decode cX5_terms 50 = .ok (.iconst 0, 1) := by decide +kernel
theorem dX5_terms_51 : decode cX5_terms 51 = .ok (.iconst 0, 1) := by decide +kernel
theorem dX5_terms_52 : decode cX5_terms 52 = .ok (.invokevirtual 81, 3) := by decide +kernel
theorem dX5_terms_55 : decode cX5_terms 55 = .ok (.ifCond .eq 4, 3) := by decide +kernel
theorem dX5_terms_58 : decode cX5_terms 58 = .ok (.return_, 1) := by decide +kernel
theorem dX5_terms_59 : decode cX5_terms 59 = .ok (.aload_n 0, 1) := by decide +kernel
theorem dX5_terms_60 : decode cX5_terms 60 = .ok (.iload_n 1, 1) := by decide +kernel
theorem dX5_terms_61 : decode cX5_terms 61 = .ok (.putfield 98, 3) := by decide +kernel
theorem dX5_terms_64 : decode cX5_terms 64 = .ok (.aload_n 0, 1) := by decide +kernel
theorem dX5_terms_65 : decode cX5_terms 65 = .ok (.iload_n 2, 1) := by decide +kernel
theorem dX5_terms_66 : decode cX5_terms 66 = .ok (.putfield 55, 3) := by decide +kernel
theorem dX5_terms_69 : decode cX5_terms 69 = .ok (.aload_n 0, 1) := by decide +kernel
theorem dX5_terms_70 : decode cX5_terms 70 = .ok (.iload_n 3, 1) := by decide +kernel
theorem dX5_terms_71 : decode cX5_terms 71 = .ok (.putfield 59, 3) := by decide +kernel
theorem dX5_terms_74 : decode cX5_terms 74 = .ok (.return_, 1) := by decide +kernel
theorem dX5_layer_0 : decode cX5_layer 0 = .ok (.aload_n 0, 1) := by decide +kernel
theorem dX5_layer_1 : decode cX5_layer 1 = .ok (.aload_n 0, 1) := by decide +kernel
theorem dX5_layer_2 : decode cX5_layer 2 = .ok (.getfield 95, 3) := by decide +kernel
theorem dX5_layer_5 : decode cX5_layer 5 = .ok (.ifCond .le 7, 3) := by decide +kernel
theorem dX5_layer_8 : decode cX5_layer 8 = .ok (.iconst 1, 1) := by decide +kernel
theorem dX5_layer_9 : decode cX5_layer 9 = .ok (.goto 4, 3) := by decide +kernel
theorem dX5_layer_12 : decode cX5_layer 12 = .ok (.iconst 0, 1) := by decide +kernel
theorem dX5_layer_13 : decode cX5_layer 13 = .ok (.iload_n 1, 1) := by decide +kernel
theorem dX5_layer_14 : decode cX5_layer 14 = .ok (.iconst 0, 1) := by decide +kernel
theorem dX5_layer_15 : decode cX5_layer 15 = .ok (.sipush 9999, 3) := by decide +kernel
theorem dX5_layer_18 : decode cX5_layer 18 = .ok (.invokestatic 71, 3) := by decide +kernel
theorem dX5_layer_21 : decode cX5_layer 21 = .ok (.ifCond .ne 34, 3) := by decide +kernel
theorem dX5_layer_24 : decode cX5_layer 24 = .ok (.iload_n 2, 1) := by decide +kernel
theorem dX5_layer_25 : decode cX5_layer 25 = .ok (.iconst 0, 1) := by decide +kernel
theorem dX5_layer_26 : decode cX5_layer 26 = .ok (.sipush 9999, 3) := by decide +kernel
theorem dX5_layer_29 : decode cX5_layer 29 = .ok (.invokestatic 71, 3) := by decide +kernel
theorem dX5_layer_32 : decode cX5_layer 32 = .ok (.ifCond .ne 23, 3) := by decide +kernel
theorem dX5_layer_35 : decode cX5_layer 35 = .ok (.iload_n 3, 1) := by decide +kernel
theorem dX5_layer_36 : decode cX5_layer 36 = .ok (.iconst 0, 1) := by decide +kernel
theorem dX5_layer_37 : decode cX5_layer 37 = .ok (.iconst 3, 1) := by decide +kernel
theorem dX5_layer_38 : decode cX5_layer 38 = .ok (.invokestatic 71, 3) := by decide +kernel
theorem dX5_layer_41 : decode cX5_layer 41 = .ok (.ifCond .ne 14, 3) := by decide +kernel
theorem dX5_layer_44 : decode cX5_layer 44 = .ok (.iload 4, 2) := by decide +kernel
theorem dX5_layer_46 : decode cX5_layer 46 = .ok (.iconst 0, 1) := by decide +kernel
theorem dX5_layer_47 : decode cX5_layer 47 = .ok (.bipush 99, 2) := by decide +kernel
theorem dX5_layer_49 : decode cX5_layer 49 = .ok (.invokestatic 71, 3) := by decide +kernel
theorem dX5_layer_52 : decode cX5_layer 52 = .ok (.ifCond .eq 7, 3) := by decide +kernel
theorem dX5_layer_55 : decode cX5_layer 55 = .ok (.iconst 1, 1) := by decide +kernel
theorem dX5_layer_56 : decode cX5_layer 56 = .ok (.goto 4, 3) := by decide +kernel
theorem dX5_layer_59 : decode cX5_layer 59 = .ok (.iconst 0, 1) := by decide +kernel
theorem dX5_layer_60 : decode cX5_layer 60 = .ok (.iconst 0, 1) := by decide +kernel
theorem dX5_layer_61 : decode cX5_layer 61 = .ok (.invokevirtual 81, 3) := by decide +kernel
theorem dX5_layer_64 : decode cX5_layer 64 = .ok (.ifCond .eq 4, 3) := by decide +kernel
theorem dX5_layer_67 : decode cX5_layer 67 = .ok (.return_, 1) := by decide +kernel
theorem dX5_layer_68 : decode cX5_layer 68 = .ok (.aload_n 0, 1) := by decide +kernel
theorem dX5_layer_69 : decode cX5_layer 69 = .ok (.iload_n 1, 1) := by decide +kernel
theorem dX5_layer_70 : decode cX5_layer 70 = .ok (.putfield 62, 3) := by decide +kernel
theorem dX5_layer_73 : decode cX5_layer 73 = .ok (.aload_n 0, 1) := by decide +kernel
theorem dX5_layer_74 : decode cX5_layer 74 = .ok (.iload_n 2, 1) := by decide +kernel
theorem dX5_layer_75 : decode cX5_layer 75 = .ok (.putfield 101, 3) := by decide +kernel
theorem dX5_layer_78 : decode cX5_layer 78 = .ok (.aload_n 0, 1) := by decide +kernel
theorem dX5_layer_79 : decode cX5_layer 79 = .ok (.iload_n 3, 1) := by decide +kernel
theorem dX5_layer_80 : decode cX5_layer 80 = .ok (.putfield 104, 3) := by decide +kernel
theorem dX5_layer_83 : decode cX5_layer 83 = .ok (.aload_n 0, 1) := by decide +kernel
theorem dX5_layer_84 : decode cX5_layer 84 = .ok (.iload 4, 2) := by decide +kernel
theorem dX5_layer_86 : decode cX5_layer 86 = .ok (.putfield 107, 3) := by decide +kernel
theorem dX5_layer_89 : decode cX5_layer 89 = .ok (.return_, 1) := by decide +kernel
theorem dX5_isPolicy_0 : decode cX5_isPolicy 0 = .ok (.iload_n 1, 1) := by decide +kernel
theorem dX5_isPolicy_1 : decode cX5_isPolicy 1 = .ok (.ifCond .lt 15, 3) := by decide +kernel
theorem dX5_isPolicy_4 : decode cX5_isPolicy 4 = .ok (.iload_n 1, 1) := by decide +kernel
theorem dX5_isPolicy_5 : decode cX5_isPolicy 5 = .ok (.aload_n 0, 1) := by decide +kernel
theorem dX5_isPolicy_6 : decode cX5_isPolicy 6 = .ok (.getfield 75, 3) := by decide +kernel
theorem dX5_isPolicy_9 : decode cX5_isPolicy 9 = .ok (.if_icmp .ge 7, 3) := by decide +kernel
theorem dX5_isPolicy_12 : decode cX5_isPolicy 12 = .ok (.iconst 1, 1) := by decide +kernel
theorem dX5_isPolicy_13 : decode cX5_isPolicy 13 = .ok (.goto 4, 3) := by decide +kernel
theorem dX5_isPolicy_16 : decode cX5_isPolicy 16 = .ok (.iconst 0, 1) := by decide +kernel
theorem dX5_isPolicy_17 : decode cX5_isPolicy 17 = .ok (.ireturn, 1) := by decide +kernel
theorem dX5_inTerm_0 : decode cX5_inTerm 0 = .ok (.iload_n 2, 1) := by decide +kernel
theorem dX5_inTerm_1 : decode cX5_inTerm 1 = .ok (.aload_n 0, 1) := by decide +kernel
theorem dX5_inTerm_2 : decode cX5_inTerm 2 = .ok (.getfield 13, 3) := by decide +kernel
theorem dX5_inTerm_5 : decode cX5_inTerm 5 = .ok (.iload_n 1, 1) := by decide +kernel
theorem dX5_inTerm_6 : decode cX5_inTerm 6 = .ok (.iaload, 1) := by decide +kernel
theorem dX5_inTerm_7 : decode cX5_inTerm 7 = .ok (.if_icmp .lt 17, 3) := by decide +kernel
theorem dX5_inTerm_10 : decode cX5_inTerm 10 = .ok (.iload_n 2, 1) := by decide +kernel
theorem dX5_inTerm_11 : decode cX5_inTerm 11 = .ok (.aload_n 0, 1) := by decide +kernel
theorem dX5_inTerm_12 : decode cX5_inTerm 12 = .ok (.getfield 16, 3) := by decide +kernel
theorem dX5_inTerm_15 : decode cX5_inTerm 15 = .ok (.iload_n 1, 1) := by decide +kernel
theorem dX5_inTerm_16 : decode cX5_inTerm 16 = .ok (.iaload, 1) := by decide +kernel
theorem dX5_inTerm_17 : decode cX5_inTerm 17 = .ok (.if_icmp .gt 7, 3) := by decide +kernel
theorem dX5_inTerm_20 : decode cX5_inTerm 20 = .ok (.iconst 1, 1) := by decide +kernel
theorem dX5_inTerm_21 : decode cX5_inTerm 21 = .ok (.goto 4, 3) := by decide +kernel
theorem dX5_inTerm_24 : decode cX5_inTerm 24 = .ok (.iconst 0, 1) := by decide +kernel
theorem dX5_inTerm_25 : decode cX5_inTerm 25 = .ok (.ireturn, 1) := by decide +kernel
theorem dX5_look_0 : decode cX5_look 0 = .ok (.iconst 0, 1) := by decide +kernel
theorem dX5_look_1 : decode cX5_look 1 = .ok (.istore 4, 2) := by decide +kernel
theorem dX5_look_3 : decode cX5_look 3 = .ok (.iload 4, 2) := by decide +kernel
theorem dX5_look_5 : decode cX5_look 5 = .ok (.iconst 4, 1) := by decide +kernel
theorem dX5_look_6 : decode cX5_look 6 = .ok (.if_icmp .ge 17, 3) := by decide +kernel
theorem dX5_look_9 : decode cX5_look 9 = .ok (.aload_n 0, 1) := by decide +kernel
theorem dX5_look_10 : decode cX5_look 10 = .ok (.getfield 34, 3) := by decide +kernel
theorem dX5_look_13 : decode cX5_look 13 = .ok (.iload 4, 2) := by decide +kernel
theorem dX5_look_15 : decode cX5_look 15 = .ok (.iconst (-1), 1) := by decide +kernel
theorem dX5_look_16 : decode cX5_look 16 = .ok (.iastore, 1) := by decide +kernel
theorem dX5_look_17 : decode cX5_look 17 = .ok (.iinc 4 1, 3) := by decide +kernel
theorem dX5_look_20 : decode cX5_look 20 = .ok (.goto (-17), 3) := by decide +kernel
theorem dX5_look_23 : decode cX5_look 23 = .ok (.iconst 0, 1) := by decide +kernel
theorem dX5_look_24 : decode cX5_look 24 = .ok (.istore 4, 2) := by decide +kernel
theorem dX5_look_26 : decode cX5_look 26 = .ok (.iload 4, 2) := by decide +kernel
theorem dX5_look_28 : decode cX5_look 28 = .ok (.aload_n 0, 1) := by decide +kernel
theorem dX5_look_29 : decode cX5_look 29 = .ok (.getfield 110, 3) := by decide +kernel
theorem dX5_look_32 : decode cX5_look 32 = .ok (.if_icmp .ge 175, 3) := by decide +kernel
theorem dX5_look_35 : decode cX5_look 35 = .ok (.iload 4, 2) := by decide +kernel
theorem dX5_look_37 : decode cX5_look 37 = .ok (.iload_n 3, 1) := by decide +kernel
theorem dX5_look_38 : decode cX5_look 38 = .ok (.if_icmp .gt 169, 3) := by decide +kernel
theorem dX5_look_41 : decode cX5_look 41 = .ok (.aload_n 0, 1) := by decide +kernel
theorem dX5_look_42 : decode cX5_look 42 = .ok (.getfield 22, 3) := by decide +kernel
theorem dX5_look_45 : decode cX5_look 45 = .ok (.iload 4, 2) := by decide +kernel
theorem dX5_look_47 : decode cX5_look 47 = .ok (.iaload, 1) := by decide +kernel
theorem dX5_look_48 : decode cX5_look 48 = .ok (.iload_n 1, 1) := by decide +kernel
theorem dX5_look_49 : decode cX5_look 49 = .ok (.if_icmp .ne 18, 3) := by decide +kernel
theorem dX5_look_52 : decode cX5_look 52 = .ok (.aload_n 0, 1) := by decide +kernel
theorem dX5_look_53 : decode cX5_look 53 = .ok (.getfield 25, 3) := by decide +kernel
theorem dX5_look_56 : decode cX5_look 56 = .ok (.iload 4, 2) := by decide +kernel
theorem dX5_look_58 : decode cX5_look 58 = .ok (.iaload, 1) := by decide +kernel
theorem dX5_look_59 : decode cX5_look 59 = .ok (.iload_n 2, 1) := by decide +kernel
theorem dX5_look_60 : decode cX5_look 60 = .ok (.if_icmp .gt 7, 3) := by decide +kernel
theorem dX5_look_63 : decode cX5_look 63 = .ok (.iconst 1, 1) := by decide +kernel
theorem dX5_look_64 : decode cX5_look 64 = .ok (.goto 4, 3) := by decide +kernel
theorem dX5_look_67 : decode cX5_look 67 = .ok (.iconst 0, 1) := by decide +kernel
theorem dX5_look_68 : decode cX5_look 68 = .ok (.istore 5, 2) := by decide +kernel
theorem dX5_look_70 : decode cX5_look 70 = .ok (.iconst 0, 1) := by decide +kernel
theorem dX5_look_71 : decode cX5_look 71 = .ok (.istore 6, 2) := by decide +kernel
theorem dX5_look_73 : decode cX5_look 73 = .ok (.iload 6, 2) := by decide +kernel
theorem dX5_look_75 : decode cX5_look 75 = .ok (.iconst 4, 1) := by decide +kernel
theorem dX5_look_76 : decode cX5_look 76 = .ok (.if_icmp .ge 125, 3) := by decide +kernel
theorem dX5_look_79 : decode cX5_look 79 = .ok (.iload 5, 2) := by decide +kernel
theorem dX5_look_81 : decode cX5_look 81 = .ok (.ifCond .eq 120, 3) := by decide +kernel
theorem dX5_look_84 : decode cX5_look 84 = .ok (.iload 6, 2) := by decide +kernel
theorem dX5_look_86 : decode cX5_look 86 = .ok (.iconst 3, 1) := by decide +kernel
theorem dX5_look_87 : decode cX5_look 87 = .ok (.if_icmp .ne 22, 3) := by decide +kernel
theorem dX5_look_90 : decode cX5_look 90 = .ok (.aload_n 0, 1) := by decide +kernel
theorem dX5_look_91 : decode cX5_look 91 = .ok (.getfield 19, 3) := by decide +kernel
theorem dX5_look_94 : decode cX5_look 94 = .ok (.iload 4, 2) := by decide +kernel
theorem dX5_look_96 : decode cX5_look 96 = .ok (.iaload, 1) := by decide +kernel
theorem dX5_look_97 : decode cX5_look 97 = .ok (.iconst 1, 1) := by decide +kernel
theorem dX5_look_98 : decode cX5_look 98 = .ok (.if_icmp .le 7, 3) := by decide +kernel
theorem dX5_look_101 : decode cX5_look 101 = .ok (.iconst 1, 1) := by decide +kernel
theorem dX5_look_102 : decode cX5_look 102 = .ok (.goto 45, 3) := by decide +kernel
theorem dX5_look_105 : decode cX5_look 105 = .ok (.iconst 0, 1) := by decide +kernel
theorem dX5_look_106 : decode cX5_look 106 = .ok (.goto 41, 3) := by decide +kernel
theorem dX5_look_109 : decode cX5_look 109 = .ok (.aload_n 0, 1) := by decide +kernel
theorem dX5_look_110 : decode cX5_look 110 = .ok (.getfield 19, 3) := by decide +kernel
theorem dX5_look_113 : decode cX5_look 113 = .ok (.iload 4, 2) := by decide +kernel
theorem dX5_look_115 : decode cX5_look 115 = .ok (.iaload, 1) := by decide +kernel
theorem dX5_look_116 : decode cX5_look 116 = .ok (.ifCond .eq 26, 3) := by decide +kernel
theorem dX5_look_119 : decode cX5_look 119 = .ok (.aload_n 0, 1) := by decide +kernel
theorem dX5_look_120 : decode cX5_look 120 = .ok (.getfield 19, 3) := by decide +kernel
theorem dX5_look_123 : decode cX5_look 123 = .ok (.iload 4, 2) := by decide +kernel
theorem dX5_look_125 : decode cX5_look 125 = .ok (.iaload, 1) := by decide +kernel
theorem dX5_look_126 : decode cX5_look 126 = .ok (.iconst 1, 1) := by decide +kernel
theorem dX5_look_127 : decode cX5_look 127 = .ok (.if_icmp .ne 19, 3) := by decide +kernel
theorem dX5_look_130 : decode cX5_look 130 = .ok (.aload_n 0, 1) := by decide +kernel
theorem dX5_look_131 : decode cX5_look 131 = .ok (.getfield 28, 3) := by decide +kernel
theorem dX5_look_134 : decode cX5_look 134 = .ok (.iload 4, 2) := by decide +kernel
theorem dX5_look_136 : decode cX5_look 136 = .ok (.iaload, 1) := by decide +kernel
theorem dX5_look_137 : decode cX5_look 137 = .ok (.iload 6, 2) := by decide +kernel
theorem dX5_look_139 : decode cX5_look 139 = .ok (.if_icmp .ne 7, 3) := by decide +kernel
theorem dX5_look_142 : decode cX5_look 142 = .ok (.iconst 1, 1) := by decide +kernel
theorem dX5_look_143 : decode cX5_look 143 = .ok (.goto 4, 3) := by decide +kernel
theorem dX5_look_146 : decode cX5_look 146 = .ok (.iconst 0, 1) := by decide +kernel
theorem dX5_look_147 : decode cX5_look 147 = .ok (.istore 7, 2) := by decide +kernel
theorem dX5_look_149 : decode cX5_look 149 = .ok (.iload 7, 2) := by decide +kernel
theorem dX5_look_151 : decode cX5_look 151 = .ok (.ifCond .eq 44, 3) := by decide +kernel
theorem dX5_look_154 : decode cX5_look 154 = .ok (.aload_n 0, 1) := by decide +kernel
theorem dX5_look_155 : decode cX5_look 155 = .ok (.getfield 34, 3) := by decide +kernel
theorem dX5_look_158 : decode cX5_look 158 = .ok (.iload 6, 2) := by decide +kernel
theorem dX5_look_160 : decode cX5_look 160 = .ok (.iaload, 1) := by decide +kernel
theorem dX5_look_161 : decode cX5_look 161 = .ok (.ifCond .lt 25, 3) := by decide +kernel
theorem dX5_look_164 : decode cX5_look 164 = .ok (.aload_n 0, 1) := by decide +kernel
theorem dX5_look_165 : decode cX5_look 165 = .ok (.getfield 25, 3) := by decide +kernel
theorem dX5_look_168 : decode cX5_look 168 = .ok (.iload 4, 2) := by decide +kernel
theorem dX5_look_170 : decode cX5_look 170 = .ok (.iaload, 1) := by decide +kernel
theorem dX5_look_171 : decode cX5_look 171 = .ok (.aload_n 0, 1) := by decide +kernel
theorem dX5_look_172 : decode cX5_look 172 = .ok (.getfield 25, 3) := by decide +kernel
theorem dX5_look_175 : decode cX5_look 175 = .ok (.aload_n 0, 1) := by decide +kernel
theorem dX5_look_176 : decode cX5_look 176 = .ok (.getfield 34, 3) := by decide +kernel
theorem dX5_look_179 : decode cX5_look 179 = .ok (.iload 6, 2) := by decide +kernel
theorem dX5_look_181 : decode cX5_look 181 = .ok (.iaload, 1) := by decide +kernel
theorem dX5_look_182 : decode cX5_look 182 = .ok (.iaload, 1) := by decide +kernel
theorem dX5_look_183 : decode cX5_look 183 = .ok (.if_icmp .lt 12, 3) := by decide +kernel
theorem dX5_look_186 : decode cX5_look 186 = .ok (.aload_n 0, 1) := by decide +kernel
theorem dX5_look_187 : decode cX5_look 187 = .ok (.getfield 34, 3) := by decide +kernel
theorem dX5_look_190 : decode cX5_look 190 = .ok (.iload 6, 2) := by decide +kernel
theorem dX5_look_192 : decode cX5_look 192 = .ok (.iload 4, 2) := by decide +kernel
theorem dX5_look_194 : decode cX5_look 194 = .ok (.iastore, 1) := by decide +kernel
theorem dX5_look_195 : decode cX5_look 195 = .ok (.iinc 6 1, 3) := by decide +kernel
theorem dX5_look_198 : decode cX5_look 198 = .ok (.goto (-125), 3) := by decide +kernel
theorem dX5_look_201 : decode cX5_look 201 = .ok (.iinc 4 1, 3) := by decide +kernel
theorem dX5_look_204 : decode cX5_look 204 = .ok (.goto (-178), 3) := by decide +kernel
theorem dX5_look_207 : decode cX5_look 207 = .ok (.return_, 1) := by decide +kernel
theorem dX5_known_0 : decode cX5_known 0 = .ok (.aload_n 0, 1) := by decide +kernel
theorem dX5_known_1 : decode cX5_known 1 = .ok (.getfield 34, 3) := by decide +kernel
theorem dX5_known_4 : decode cX5_known 4 = .ok (.iload_n 1, 1) := by decide +kernel
theorem dX5_known_5 : decode cX5_known 5 = .ok (.iaload, 1) := by decide +kernel
theorem dX5_known_6 : decode cX5_known 6 = .ok (.istore_n 2, 1) := by decide +kernel
theorem dX5_known_7 : decode cX5_known 7 = .ok (.iload_n 2, 1) := by decide +kernel
theorem dX5_known_8 : decode cX5_known 8 = .ok (.ifCond .ge 5, 3) := by decide +kernel
theorem dX5_known_11 : decode cX5_known 11 = .ok (.iconst 0, 1) := by decide +kernel
theorem dX5_known_12 : decode cX5_known 12 = .ok (.ireturn, 1) := by decide +kernel
theorem dX5_known_13 : decode cX5_known 13 = .ok (.aload_n 0, 1) := by decide +kernel
theorem dX5_known_14 : decode cX5_known 14 = .ok (.getfield 19, 3) := by decide +kernel
theorem dX5_known_17 : decode cX5_known 17 = .ok (.iload_n 2, 1) := by decide +kernel
theorem dX5_known_18 : decode cX5_known 18 = .ok (.iaload, 1) := by decide +kernel
theorem dX5_known_19 : decode cX5_known 19 = .ok (.iconst 1, 1) := by decide +kernel
theorem dX5_known_20 : decode cX5_known 20 = .ok (.if_icmp .ne 10, 3) := by decide +kernel
theorem dX5_known_23 : decode cX5_known 23 = .ok (.aload_n 0, 1) := by decide +kernel
theorem dX5_known_24 : decode cX5_known 24 = .ok (.getfield 31, 3) := by decide +kernel
theorem dX5_known_27 : decode cX5_known 27 = .ok (.iload_n 2, 1) := by decide +kernel
theorem dX5_known_28 : decode cX5_known 28 = .ok (.iaload, 1) := by decide +kernel
theorem dX5_known_29 : decode cX5_known 29 = .ok (.ireturn, 1) := by decide +kernel
theorem dX5_known_30 : decode cX5_known 30 = .ok (.iload_n 1, 1) := by decide +kernel
theorem dX5_known_31 : decode cX5_known 31 = .ok (.ifCond .ne 15, 3) := by decide +kernel
theorem dX5_known_34 : decode cX5_known 34 = .ok (.aload_n 0, 1) := by decide +kernel
theorem dX5_known_35 : decode cX5_known 35 = .ok (.getfield 31, 3) := by decide +kernel
theorem dX5_known_38 : decode cX5_known 38 = .ok (.iload_n 2, 1) := by decide +kernel
theorem dX5_known_39 : decode cX5_known 39 = .ok (.iaload, 1) := by decide +kernel
theorem dX5_known_40 : decode cX5_known 40 = .ok (.ldc 113, 2) := by decide +kernel
theorem dX5_known_42 : decode cX5_known 42 = .ok (.idiv, 1) := by decide +kernel
theorem dX5_known_43 : decode cX5_known 43 = .ok (.goto 35, 3) := by decide +kernel
theorem dX5_known_46 : decode cX5_known 46 = .ok (.iload_n 1, 1) := by decide +kernel
theorem dX5_known_47 : decode cX5_known 47 = .ok (.iconst 1, 1) := by decide +kernel
theorem dX5_known_48 : decode cX5_known 48 = .ok (.if_icmp .ne 20, 3) := by decide +kernel
theorem dX5_known_51 : decode cX5_known 51 = .ok (.aload_n 0, 1) := by decide +kernel
theorem dX5_known_52 : decode cX5_known 52 = .ok (.getfield 31, 3) := by decide +kernel
theorem dX5_known_55 : decode cX5_known 55 = .ok (.iload_n 2, 1) := by decide +kernel
theorem dX5_known_56 : decode cX5_known 56 = .ok (.iaload, 1) := by decide +kernel
theorem dX5_known_57 : decode cX5_known 57 = .ok (.sipush 1000, 3) := by decide +kernel
theorem dX5_known_60 : decode cX5_known 60 = .ok (.idiv, 1) := by decide +kernel
theorem dX5_known_61 : decode cX5_known 61 = .ok (.sipush 1000, 3) := by decide +kernel
theorem dX5_known_64 : decode cX5_known 64 = .ok (.irem, 1) := by decide +kernel
theorem dX5_known_65 : decode cX5_known 65 = .ok (.goto 13, 3) := by decide +kernel
theorem dX5_known_68 : decode cX5_known 68 = .ok (.aload_n 0, 1) := by decide +kernel
theorem dX5_known_69 : decode cX5_known 69 = .ok (.getfield 31, 3) := by decide +kernel
theorem dX5_known_72 : decode cX5_known 72 = .ok (.iload_n 2, 1) := by decide +kernel
theorem dX5_known_73 : decode cX5_known 73 = .ok (.iaload, 1) := by decide +kernel
theorem dX5_known_74 : decode cX5_known 74 = .ok (.sipush 1000, 3) := by decide +kernel
theorem dX5_known_77 : decode cX5_known 77 = .ok (.irem, 1) := by decide +kernel
theorem dX5_known_78 : decode cX5_known 78 = .ok (.ireturn, 1) := by decide +kernel
theorem dX5_bound_0 : decode cX5_bound 0 = .ok (.aload_n 0, 1) := by decide +kernel
theorem dX5_bound_1 : decode cX5_bound 1 = .ok (.iload_n 1, 1) := by decide +kernel
theorem dX5_bound_2 : decode cX5_bound 2 = .ok (.sipush 999, 3) := by decide +kernel
theorem dX5_bound_5 : decode cX5_bound 5 = .ok (.iload_n 2, 1) := by decide +kernel
theorem dX5_bound_6 : decode cX5_bound 6 = .ok (.invokevirtual 114, 3) := by decide +kernel
theorem dX5_bound_9 : decode cX5_bound 9 = .ok (.aload_n 0, 1) := by decide +kernel
theorem dX5_bound_10 : decode cX5_bound 10 = .ok (.getfield 34, 3) := by decide +kernel
theorem dX5_bound_13 : decode cX5_bound 13 = .ok (.iconst 0, 1) := by decide +kernel
theorem dX5_bound_14 : decode cX5_bound 14 = .ok (.iaload, 1) := by decide +kernel
theorem dX5_bound_15 : decode cX5_bound 15 = .ok (.ifCond .lt 7, 3) := by decide +kernel
theorem dX5_bound_18 : decode cX5_bound 18 = .ok (.iconst 1, 1) := by decide +kernel
theorem dX5_bound_19 : decode cX5_bound 19 = .ok (.goto 4, 3) := by decide +kernel
theorem dX5_bound_22 : decode cX5_bound 22 = .ok (.iconst 0, 1) := by decide +kernel
theorem dX5_bound_23 : decode cX5_bound 23 = .ok (.ireturn, 1) := by decide +kernel
theorem dX5_runs_0 : decode cX5_runs 0 = .ok (.aload_n 0, 1) := by decide +kernel
theorem dX5_runs_1 : decode cX5_runs 1 = .ok (.getfield 34, 3) := by decide +kernel
theorem dX5_runs_4 : decode cX5_runs 4 = .ok (.iconst 0, 1) := by decide +kernel
theorem dX5_runs_5 : decode cX5_runs 5 = .ok (.iaload, 1) := by decide +kernel
theorem dX5_runs_6 : decode cX5_runs 6 = .ok (.ifCond .lt 31, 3) := by decide +kernel
theorem dX5_runs_9 : decode cX5_runs 9 = .ok (.aload_n 0, 1) := by decide +kernel
theorem dX5_runs_10 : decode cX5_runs 10 = .ok (.getfield 34, 3) := by decide +kernel
theorem dX5_runs_13 : decode cX5_runs 13 = .ok (.iconst 3, 1) := by decide +kernel
theorem dX5_runs_14 : decode cX5_runs 14 = .ok (.iaload, 1) := by decide +kernel
theorem dX5_runs_15 : decode cX5_runs 15 = .ok (.ifCond .lt 18, 3) := by decide +kernel
theorem dX5_runs_18 : decode cX5_runs 18 = .ok (.aload_n 0, 1) := by decide +kernel
theorem dX5_runs_19 : decode cX5_runs 19 = .ok (.getfield 19, 3) := by decide +kernel
theorem dX5_runs_22 : decode cX5_runs 22 = .ok (.aload_n 0, 1) := by decide +kernel
theorem dX5_runs_23 : decode cX5_runs 23 = .ok (.getfield 34, 3) := by decide +kernel
theorem dX5_runs_26 : decode cX5_runs 26 = .ok (.iconst 3, 1) := by decide +kernel
theorem dX5_runs_27 : decode cX5_runs 27 = .ok (.iaload, 1) := by decide +kernel
theorem dX5_runs_28 : decode cX5_runs 28 = .ok (.iaload, 1) := by decide +kernel
theorem dX5_runs_29 : decode cX5_runs 29 = .ok (.iconst 3, 1) := by decide +kernel
theorem dX5_runs_30 : decode cX5_runs 30 = .ok (.if_icmp .ne 7, 3) := by decide +kernel
theorem dX5_runs_33 : decode cX5_runs 33 = .ok (.iconst 1, 1) := by decide +kernel
theorem dX5_runs_34 : decode cX5_runs 34 = .ok (.goto 4, 3) := by decide +kernel
theorem dX5_runs_37 : decode cX5_runs 37 = .ok (.iconst 0, 1) := by decide +kernel
theorem dX5_runs_38 : decode cX5_runs 38 = .ok (.ireturn, 1) := by decide +kernel
theorem dX5_inForce_0 : decode cX5_inForce 0 = .ok (.aload_n 0, 1) := by decide +kernel
theorem dX5_inForce_1 : decode cX5_inForce 1 = .ok (.iload_n 1, 1) := by decide +kernel
theorem dX5_inForce_2 : decode cX5_inForce 2 = .ok (.iload_n 2, 1) := by decide +kernel
theorem dX5_inForce_3 : decode cX5_inForce 3 = .ok (.invokevirtual 118, 3) := by decide +kernel
theorem dX5_inForce_6 : decode cX5_inForce 6 = .ok (.ifCond .ne 5, 3) := by decide +kernel
theorem dX5_inForce_9 : decode cX5_inForce 9 = .ok (.iconst 0, 1) := by decide +kernel
theorem dX5_inForce_10 : decode cX5_inForce 10 = .ok (.ireturn, 1) := by decide +kernel
theorem dX5_inForce_11 : decode cX5_inForce 11 = .ok (.aload_n 0, 1) := by decide +kernel
theorem dX5_inForce_12 : decode cX5_inForce 12 = .ok (.iload_n 1, 1) := by decide +kernel
theorem dX5_inForce_13 : decode cX5_inForce 13 = .ok (.iload_n 2, 1) := by decide +kernel
theorem dX5_inForce_14 : decode cX5_inForce 14 = .ok (.iload_n 3, 1) := by decide +kernel
theorem dX5_inForce_15 : decode cX5_inForce 15 = .ok (.invokevirtual 114, 3) := by decide +kernel
theorem dX5_inForce_18 : decode cX5_inForce 18 = .ok (.aload_n 0, 1) := by decide +kernel
theorem dX5_inForce_19 : decode cX5_inForce 19 = .ok (.invokevirtual 122, 3) := by decide +kernel
theorem dX5_inForce_22 : decode cX5_inForce 22 = .ok (.ireturn, 1) := by decide +kernel
theorem dX5_charge_0 : decode cX5_charge 0 = .ok (.aload_n 0, 1) := by decide +kernel
theorem dX5_charge_1 : decode cX5_charge 1 = .ok (.iload_n 1, 1) := by decide +kernel
theorem dX5_charge_2 : decode cX5_charge 2 = .ok (.iload_n 2, 1) := by decide +kernel
theorem dX5_charge_3 : decode cX5_charge 3 = .ok (.iload_n 3, 1) := by decide +kernel
theorem dX5_charge_4 : decode cX5_charge 4 = .ok (.invokevirtual 114, 3) := by decide +kernel
theorem dX5_charge_7 : decode cX5_charge 7 = .ok (.aload_n 0, 1) := by decide +kernel
theorem dX5_charge_8 : decode cX5_charge 8 = .ok (.invokevirtual 122, 3) := by decide +kernel
theorem dX5_charge_11 : decode cX5_charge 11 = .ok (.ifCond .eq 26, 3) := by decide +kernel
theorem dX5_charge_14 : decode cX5_charge 14 = .ok (.aload_n 0, 1) := by decide +kernel
theorem dX5_charge_15 : decode cX5_charge 15 = .ok (.iconst 2, 1) := by decide +kernel
theorem dX5_charge_16 : decode cX5_charge 16 = .ok (.invokevirtual 126, 3) := by decide +kernel
theorem dX5_charge_19 : decode cX5_charge 19 = .ok (.aload_n 0, 1) := by decide +kernel
theorem dX5_charge_20 : decode cX5_charge 20 = .ok (.aload_n 0, 1) := by decide +kernel
theorem dX5_charge_21 : decode cX5_charge 21 = .ok (.iconst 0, 1) := by decide +kernel
theorem dX5_charge_22 : decode cX5_charge 22 = .ok (.invokevirtual 126, 3) := by decide +kernel
theorem dX5_charge_25 : decode cX5_charge 25 = .ok (.aload_n 0, 1) := by decide +kernel
theorem dX5_charge_26 : decode cX5_charge 26 = .ok (.iconst 1, 1) := by decide +kernel
theorem dX5_charge_27 : decode cX5_charge 27 = .ok (.invokevirtual 126, 3) := by decide +kernel
theorem dX5_charge_30 : decode cX5_charge 30 = .ok (.invokevirtual 130, 3) := by decide +kernel
theorem dX5_charge_33 : decode cX5_charge 33 = .ok (.imul, 1) := by decide +kernel
theorem dX5_charge_34 : decode cX5_charge 34 = .ok (.goto 4, 3) := by decide +kernel
theorem dX5_charge_37 : decode cX5_charge 37 = .ok (.iconst 0, 1) := by decide +kernel
theorem dX5_charge_38 : decode cX5_charge 38 = .ok (.ireturn, 1) := by decide +kernel
theorem dX5_charges_0 : decode cX5_charges 0 = .ok (.iconst 0, 1) := by decide +kernel
theorem dX5_charges_1 : decode cX5_charges 1 = .ok (.istore 4, 2) := by decide +kernel
theorem dX5_charges_3 : decode cX5_charges 3 = .ok (.aload_n 0, 1) := by decide +kernel
theorem dX5_charges_4 : decode cX5_charges 4 = .ok (.getfield 13, 3) := by decide +kernel
theorem dX5_charges_7 : decode cX5_charges 7 = .ok (.iload_n 1, 1) := by decide +kernel
theorem dX5_charges_8 : decode cX5_charges 8 = .ok (.iaload, 1) := by decide +kernel
theorem dX5_charges_9 : decode cX5_charges 9 = .ok (.istore 5, 2) := by decide +kernel
theorem dX5_charges_11 : decode cX5_charges 11 = .ok (.iload 5, 2) := by decide +kernel
theorem dX5_charges_13 : decode cX5_charges 13 = .ok (.aload_n 0, 1) := by decide +kernel
theorem dX5_charges_14 : decode cX5_charges 14 = .ok (.getfield 16, 3) := by decide +kernel
theorem dX5_charges_17 : decode cX5_charges 17 = .ok (.iload_n 1, 1) := by decide +kernel
theorem dX5_charges_18 : decode cX5_charges 18 = .ok (.iaload, 1) := by decide +kernel
theorem dX5_charges_19 : decode cX5_charges 19 = .ok (.if_icmp .gt 28, 3) := by decide +kernel
theorem dX5_charges_22 : decode cX5_charges 22 = .ok (.iload 5, 2) := by decide +kernel
theorem dX5_charges_24 : decode cX5_charges 24 = .ok (.iload_n 2, 1) := by decide +kernel
theorem dX5_charges_25 : decode cX5_charges 25 = .ok (.if_icmp .ge 22, 3) := by decide +kernel
theorem dX5_charges_28 : decode cX5_charges 28 = .ok (.iload 4, 2) := by decide +kernel
theorem dX5_charges_30 : decode cX5_charges 30 = .ok (.aload_n 0, 1) := by decide +kernel
theorem dX5_charges_31 : decode cX5_charges 31 = .ok (.iload_n 1, 1) := by decide +kernel
theorem dX5_charges_32 : decode cX5_charges 32 = .ok (.iload 5, 2) := by decide +kernel
theorem dX5_charges_34 : decode cX5_charges 34 = .ok (.iload_n 3, 1) := by decide +kernel
theorem dX5_charges_35 : decode cX5_charges 35 = .ok (.invokevirtual 134, 3) := by decide +kernel
theorem dX5_charges_38 : decode cX5_charges 38 = .ok (.iadd, 1) := by decide +kernel
theorem dX5_charges_39 : decode cX5_charges 39 = .ok (.istore 4, 2) := by decide +kernel
theorem dX5_charges_41 : decode cX5_charges 41 = .ok (.iinc 5 1, 3) := by decide +kernel
theorem dX5_charges_44 : decode cX5_charges 44 = .ok (.goto (-33), 3) := by decide +kernel
theorem dX5_charges_47 : decode cX5_charges 47 = .ok (.iload 4, 2) := by decide +kernel
theorem dX5_charges_49 : decode cX5_charges 49 = .ok (.sipush 1000, 3) := by decide +kernel
theorem dX5_charges_52 : decode cX5_charges 52 = .ok (.idiv, 1) := by decide +kernel
theorem dX5_charges_53 : decode cX5_charges 53 = .ok (.ireturn, 1) := by decide +kernel
theorem dX5_drafted_0 : decode cX5_drafted 0 = .ok (.iload_n 1, 1) := by decide +kernel
theorem dX5_drafted_1 : decode cX5_drafted 1 = .ok (.ifCond .ne 4, 3) := by decide +kernel
theorem dX5_drafted_4 : decode cX5_drafted 4 = .ok (.return_, 1) := by decide +kernel
theorem dX5_drafted_5 : decode cX5_drafted 5 = .ok (.aload_n 0, 1) := by decide +kernel
theorem dX5_drafted_6 : decode cX5_drafted 6 = .ok (.getfield 46, 3) := by decide +kernel
theorem dX5_drafted_9 : decode cX5_drafted 9 = .ok (.aload_n 0, 1) := by decide +kernel
theorem dX5_drafted_10 : decode cX5_drafted 10 = .ok (.getfield 138, 3) := by decide +kernel
theorem dX5_drafted_13 : decode cX5_drafted 13 = .ok (.iload_n 1, 1) := by decide +kernel
theorem dX5_drafted_14 : decode cX5_drafted 14 = .ok (.ifCond .le 7, 3) := by decide +kernel
theorem dX5_drafted_17 : decode cX5_drafted 17 = .ok (.iload_n 2, 1) := by decide +kernel
theorem dX5_drafted_18 : decode cX5_drafted 18 = .ok (.goto 4, 3) := by decide +kernel
theorem dX5_drafted_21 : decode cX5_drafted 21 = .ok (.iload_n 3, 1) := by decide +kernel
theorem dX5_drafted_22 : decode cX5_drafted 22 = .ok (.iastore, 1) := by decide +kernel
theorem dX5_drafted_23 : decode cX5_drafted 23 = .ok (.aload_n 0, 1) := by decide +kernel
theorem dX5_drafted_24 : decode cX5_drafted 24 = .ok (.getfield 49, 3) := by decide +kernel
theorem dX5_drafted_27 : decode cX5_drafted 27 = .ok (.aload_n 0, 1) := by decide +kernel
theorem dX5_drafted_28 : decode cX5_drafted 28 = .ok (.getfield 138, 3) := by decide +kernel
theorem dX5_drafted_31 : decode cX5_drafted 31 = .ok (.iload_n 1, 1) := by decide +kernel
theorem dX5_drafted_32 : decode cX5_drafted 32 = .ok (.ifCond .le 7, 3) := by decide +kernel
theorem dX5_drafted_35 : decode cX5_drafted 35 = .ok (.iload_n 3, 1) := by decide +kernel
theorem dX5_drafted_36 : decode cX5_drafted 36 = .ok (.goto 4, 3) := by decide +kernel
theorem dX5_drafted_39 : decode cX5_drafted 39 = .ok (.iload_n 2, 1) := by decide +kernel
theorem dX5_drafted_40 : decode cX5_drafted 40 = .ok (.iastore, 1) := by decide +kernel
theorem dX5_drafted_41 : decode cX5_drafted 41 = .ok (.aload_n 0, 1) := by decide +kernel
theorem dX5_drafted_42 : decode cX5_drafted 42 = .ok (.getfield 52, 3) := by decide +kernel
theorem dX5_drafted_45 : decode cX5_drafted 45 = .ok (.aload_n 0, 1) := by decide +kernel
theorem dX5_drafted_46 : decode cX5_drafted 46 = .ok (.getfield 138, 3) := by decide +kernel
theorem dX5_drafted_49 : decode cX5_drafted 49 = .ok (.iload_n 1, 1) := by decide +kernel
theorem dX5_drafted_50 : decode cX5_drafted 50 = .ok (.ifCond .le 7, 3) := by decide +kernel
theorem dX5_drafted_53 : decode cX5_drafted 53 = .ok (.iload_n 1, 1) := by decide +kernel
theorem dX5_drafted_54 : decode cX5_drafted 54 = .ok (.goto 5, 3) := by decide +kernel
theorem dX5_drafted_57 : decode cX5_drafted 57 = .ok (.iload_n 1, 1) := by decide +kernel
theorem dX5_drafted_58 : decode cX5_drafted 58 = .ok (.ineg, 1) := by decide +kernel
theorem dX5_drafted_59 : decode cX5_drafted 59 = .ok (.iastore, 1) := by decide +kernel
theorem dX5_drafted_60 : decode cX5_drafted 60 = .ok (.aload_n 0, 1) := by decide +kernel
theorem dX5_drafted_61 : decode cX5_drafted 61 = .ok (.dup, 1) := by decide +kernel
theorem dX5_drafted_62 : decode cX5_drafted 62 = .ok (.getfield 138, 3) := by decide +kernel
theorem dX5_drafted_65 : decode cX5_drafted 65 = .ok (.iconst 1, 1) := by decide +kernel
theorem dX5_drafted_66 : decode cX5_drafted 66 = .ok (.iadd, 1) := by decide +kernel
theorem dX5_drafted_67 : decode cX5_drafted 67 = .ok (.putfield 138, 3) := by decide +kernel
theorem dX5_drafted_70 : decode cX5_drafted 70 = .ok (.return_, 1) := by decide +kernel
theorem dX5_posts_0 : decode cX5_posts 0 = .ok (.aload_n 0, 1) := by decide +kernel
theorem dX5_posts_1 : decode cX5_posts 1 = .ok (.getfield 141, 3) := by decide +kernel
theorem dX5_posts_4 : decode cX5_posts 4 = .ok (.aload_n 0, 1) := by decide +kernel
theorem dX5_posts_5 : decode cX5_posts 5 = .ok (.getfield 138, 3) := by decide +kernel
theorem dX5_posts_8 : decode cX5_posts 8 = .ok (.iadd, 1) := by decide +kernel
theorem dX5_posts_9 : decode cX5_posts 9 = .ok (.bipush 90, 2) := by decide +kernel
theorem dX5_posts_11 : decode cX5_posts 11 = .ok (.if_icmp .le 5, 3) := by decide +kernel
theorem dX5_posts_14 : decode cX5_posts 14 = .ok (.iconst 0, 1) := by decide +kernel
theorem dX5_posts_15 : decode cX5_posts 15 = .ok (.ireturn, 1) := by decide +kernel
theorem dX5_posts_16 : decode cX5_posts 16 = .ok (.iconst 0, 1) := by decide +kernel
theorem dX5_posts_17 : decode cX5_posts 17 = .ok (.istore_n 1, 1) := by decide +kernel
theorem dX5_posts_18 : decode cX5_posts 18 = .ok (.iload_n 1, 1) := by decide +kernel
theorem dX5_posts_19 : decode cX5_posts 19 = .ok (.aload_n 0, 1) := by decide +kernel
theorem dX5_posts_20 : decode cX5_posts 20 = .ok (.getfield 138, 3) := by decide +kernel
theorem dX5_posts_23 : decode cX5_posts 23 = .ok (.if_icmp .ge 64, 3) := by decide +kernel
theorem dX5_posts_26 : decode cX5_posts 26 = .ok (.aload_n 0, 1) := by decide +kernel
theorem dX5_posts_27 : decode cX5_posts 27 = .ok (.getfield 37, 3) := by decide +kernel
theorem dX5_posts_30 : decode cX5_posts 30 = .ok (.aload_n 0, 1) := by decide +kernel
theorem dX5_posts_31 : decode cX5_posts 31 = .ok (.getfield 141, 3) := by decide +kernel
theorem dX5_posts_34 : decode cX5_posts 34 = .ok (.aload_n 0, 1) := by decide +kernel
theorem dX5_posts_35 : decode cX5_posts 35 = .ok (.getfield 46, 3) := by decide +kernel
theorem dX5_posts_38 : decode cX5_posts 38 = .ok (.iload_n 1, 1) := by decide +kernel
theorem dX5_posts_39 : decode cX5_posts 39 = .ok (.iaload, 1) := by decide +kernel
theorem dX5_posts_40 : decode cX5_posts 40 = .ok (.iastore, 1) := by decide +kernel
theorem dX5_posts_41 : decode cX5_posts 41 = .ok (.aload_n 0, 1) := by decide +kernel
theorem dX5_posts_42 : decode cX5_posts 42 = .ok (.getfield 40, 3) := by decide +kernel
theorem dX5_posts_45 : decode cX5_posts 45 = .ok (.aload_n 0, 1) := by decide +kernel
theorem dX5_posts_46 : decode cX5_posts 46 = .ok (.getfield 141, 3) := by decide +kernel
theorem dX5_posts_49 : decode cX5_posts 49 = .ok (.aload_n 0, 1) := by decide +kernel
theorem dX5_posts_50 : decode cX5_posts 50 = .ok (.getfield 49, 3) := by decide +kernel
theorem dX5_posts_53 : decode cX5_posts 53 = .ok (.iload_n 1, 1) := by decide +kernel
theorem dX5_posts_54 : decode cX5_posts 54 = .ok (.iaload, 1) := by decide +kernel
theorem dX5_posts_55 : decode cX5_posts 55 = .ok (.iastore, 1) := by decide +kernel
theorem dX5_posts_56 : decode cX5_posts 56 = .ok (.aload_n 0, 1) := by decide +kernel
theorem dX5_posts_57 : decode cX5_posts 57 = .ok (.getfield 43, 3) := by decide +kernel
theorem dX5_posts_60 : decode cX5_posts 60 = .ok (.aload_n 0, 1) := by decide +kernel
theorem dX5_posts_61 : decode cX5_posts 61 = .ok (.getfield 141, 3) := by decide +kernel
theorem dX5_posts_64 : decode cX5_posts 64 = .ok (.aload_n 0, 1) := by decide +kernel
theorem dX5_posts_65 : decode cX5_posts 65 = .ok (.getfield 52, 3) := by decide +kernel
theorem dX5_posts_68 : decode cX5_posts 68 = .ok (.iload_n 1, 1) := by decide +kernel
theorem dX5_posts_69 : decode cX5_posts 69 = .ok (.iaload, 1) := by decide +kernel
theorem dX5_posts_70 : decode cX5_posts 70 = .ok (.iastore, 1) := by decide +kernel
theorem dX5_posts_71 : decode cX5_posts 71 = .ok (.aload_n 0, 1) := by decide +kernel
theorem dX5_posts_72 : decode cX5_posts 72 = .ok (.dup, 1) := by decide +kernel
theorem dX5_posts_73 : decode cX5_posts 73 = .ok (.getfield 141, 3) := by decide +kernel
theorem dX5_posts_76 : decode cX5_posts 76 = .ok (.iconst 1, 1) := by decide +kernel
theorem dX5_posts_77 : decode cX5_posts 77 = .ok (.iadd, 1) := by decide +kernel
theorem dX5_posts_78 : decode cX5_posts 78 = .ok (.putfield 141, 3) := by decide +kernel
theorem dX5_posts_81 : decode cX5_posts 81 = .ok (.iinc 1 1, 3) := by decide +kernel
theorem dX5_posts_84 : decode cX5_posts 84 = .ok (.goto (-66), 3) := by decide +kernel
theorem dX5_posts_87 : decode cX5_posts 87 = .ok (.iconst 1, 1) := by decide +kernel
theorem dX5_posts_88 : decode cX5_posts 88 = .ok (.ireturn, 1) := by decide +kernel
theorem dX5_books_0 : decode cX5_books 0 = .ok (.aload_n 0, 1) := by decide +kernel
theorem dX5_books_1 : decode cX5_books 1 = .ok (.getfield 22, 3) := by decide +kernel
theorem dX5_books_4 : decode cX5_books 4 = .ok (.aload_n 0, 1) := by decide +kernel
theorem dX5_books_5 : decode cX5_books 5 = .ok (.getfield 110, 3) := by decide +kernel
theorem dX5_books_8 : decode cX5_books 8 = .ok (.iaload, 1) := by decide +kernel
theorem dX5_books_9 : decode cX5_books 9 = .ok (.istore_n 2, 1) := by decide +kernel
theorem dX5_books_10 : decode cX5_books 10 = .ok (.aload_n 0, 1) := by decide +kernel
theorem dX5_books_11 : decode cX5_books 11 = .ok (.dup, 1) := by decide +kernel
theorem dX5_books_12 : decode cX5_books 12 = .ok (.getfield 110, 3) := by decide +kernel
theorem dX5_books_15 : decode cX5_books 15 = .ok (.iconst 1, 1) := by decide +kernel
theorem dX5_books_16 : decode cX5_books 16 = .ok (.iadd, 1) := by decide +kernel
theorem dX5_books_17 : decode cX5_books 17 = .ok (.putfield 110, 3) := by decide +kernel
theorem dX5_books_20 : decode cX5_books 20 = .ok (.aload_n 0, 1) := by decide +kernel
theorem dX5_books_21 : decode cX5_books 21 = .ok (.iload_n 2, 1) := by decide +kernel
theorem dX5_books_22 : decode cX5_books 22 = .ok (.sipush 1000, 3) := by decide +kernel
theorem dX5_books_25 : decode cX5_books 25 = .ok (.aload_n 0, 1) := by decide +kernel
theorem dX5_books_26 : decode cX5_books 26 = .ok (.getfield 110, 3) := by decide +kernel
theorem dX5_books_29 : decode cX5_books 29 = .ok (.iconst 1, 1) := by decide +kernel
theorem dX5_books_30 : decode cX5_books 30 = .ok (.isub, 1) := by decide +kernel
theorem dX5_books_31 : decode cX5_books 31 = .ok (.invokevirtual 144, 3) := by decide +kernel
theorem dX5_books_34 : decode cX5_books 34 = .ok (.aload_n 0, 1) := by decide +kernel
theorem dX5_books_35 : decode cX5_books 35 = .ok (.iload_n 2, 1) := by decide +kernel
theorem dX5_books_36 : decode cX5_books 36 = .ok (.sipush 1000, 3) := by decide +kernel
theorem dX5_books_39 : decode cX5_books 39 = .ok (.aload_n 0, 1) := by decide +kernel
theorem dX5_books_40 : decode cX5_books 40 = .ok (.getfield 110, 3) := by decide +kernel
theorem dX5_books_43 : decode cX5_books 43 = .ok (.iconst 2, 1) := by decide +kernel
theorem dX5_books_44 : decode cX5_books 44 = .ok (.isub, 1) := by decide +kernel
theorem dX5_books_45 : decode cX5_books 45 = .ok (.invokevirtual 144, 3) := by decide +kernel
theorem dX5_books_48 : decode cX5_books 48 = .ok (.isub, 1) := by decide +kernel
theorem dX5_books_49 : decode cX5_books 49 = .ok (.istore_n 3, 1) := by decide +kernel
theorem dX5_books_50 : decode cX5_books 50 = .ok (.aload_n 0, 1) := by decide +kernel
theorem dX5_books_51 : decode cX5_books 51 = .ok (.iconst 0, 1) := by decide +kernel
theorem dX5_books_52 : decode cX5_books 52 = .ok (.putfield 138, 3) := by decide +kernel
theorem dX5_books_55 : decode cX5_books 55 = .ok (.aload_n 0, 1) := by decide +kernel
theorem dX5_books_56 : decode cX5_books 56 = .ok (.iload_n 3, 1) := by decide +kernel
theorem dX5_books_57 : decode cX5_books 57 = .ok (.iconst 0, 1) := by decide +kernel
theorem dX5_books_58 : decode cX5_books 58 = .ok (.iconst 1, 1) := by decide +kernel
theorem dX5_books_59 : decode cX5_books 59 = .ok (.invokevirtual 147, 3) := by decide +kernel
theorem dX5_books_62 : decode cX5_books 62 = .ok (.aload_n 0, 1) := by decide +kernel
theorem dX5_books_63 : decode cX5_books 63 = .ok (.iload_n 3, 1) := by decide +kernel
theorem dX5_books_64 : decode cX5_books 64 = .ok (.aload_n 0, 1) := by decide +kernel
theorem dX5_books_65 : decode cX5_books 65 = .ok (.getfield 92, 3) := by decide +kernel
theorem dX5_books_68 : decode cX5_books 68 = .ok (.imul, 1) := by decide +kernel
theorem dX5_books_69 : decode cX5_books 69 = .ok (.bipush 100, 2) := by decide +kernel
theorem dX5_books_71 : decode cX5_books 71 = .ok (.invokestatic 150, 3) := by decide +kernel
theorem dX5_books_74 : decode cX5_books 74 = .ok (.iconst 3, 1) := by decide +kernel
theorem dX5_books_75 : decode cX5_books 75 = .ok (.iconst 2, 1) := by decide +kernel
theorem dX5_books_76 : decode cX5_books 76 = .ok (.invokevirtual 147, 3) := by decide +kernel
theorem dX5_books_79 : decode cX5_books 79 = .ok (.iload_n 1, 1) := by decide +kernel
theorem dX5_books_80 : decode cX5_books 80 = .ok (.ifCond .eq 19, 3) := by decide +kernel
theorem dX5_books_83 : decode cX5_books 83 = .ok (.iload_n 3, 1) := by decide +kernel
theorem dX5_books_84 : decode cX5_books 84 = .ok (.ifCond .ge 15, 3) := by decide +kernel
theorem dX5_books_87 : decode cX5_books 87 = .ok (.aload_n 0, 1) := by decide +kernel
theorem dX5_books_88 : decode cX5_books 88 = .ok (.iload_n 3, 1) := by decide +kernel
theorem dX5_books_89 : decode cX5_books 89 = .ok (.ineg, 1) := by decide +kernel
theorem dX5_books_90 : decode cX5_books 90 = .ok (.bipush 10, 2) := by decide +kernel
theorem dX5_books_92 : decode cX5_books 92 = .ok (.idiv, 1) := by decide +kernel
theorem dX5_books_93 : decode cX5_books 93 = .ok (.bipush 6, 2) := by decide +kernel
theorem dX5_books_95 : decode cX5_books 95 = .ok (.iconst 1, 1) := by decide +kernel
theorem dX5_books_96 : decode cX5_books 96 = .ok (.invokevirtual 147, 3) := by decide +kernel
theorem dX5_books_99 : decode cX5_books 99 = .ok (.aload_n 0, 1) := by decide +kernel
theorem dX5_books_100 : decode cX5_books 100 = .ok (.invokevirtual 153, 3) := by decide +kernel
theorem dX5_books_103 : decode cX5_books 103 = .ok (.ifCond .eq 10, 3) := by decide +kernel
theorem dX5_books_106 : decode cX5_books 106 = .ok (.aload_n 0, 1) := by decide +kernel
theorem dX5_books_107 : decode cX5_books 107 = .ok (.getfield 110, 3) := by decide +kernel
theorem dX5_books_110 : decode cX5_books 110 = .ok (.iconst 1, 1) := by decide +kernel
theorem dX5_books_111 : decode cX5_books 111 = .ok (.isub, 1) := by decide +kernel
theorem dX5_books_112 : decode cX5_books 112 = .ok (.ireturn, 1) := by decide +kernel
theorem dX5_books_113 : decode cX5_books 113 = .ok (.aload_n 0, 1) := by decide +kernel
theorem dX5_books_114 : decode cX5_books 114 = .ok (.dup, 1) := by decide +kernel
theorem dX5_books_115 : decode cX5_books 115 = .ok (.getfield 110, 3) := by decide +kernel
theorem dX5_books_118 : decode cX5_books 118 = .ok (.iconst 1, 1) := by decide +kernel
theorem dX5_books_119 : decode cX5_books 119 = .ok (.isub, 1) := by decide +kernel
theorem dX5_books_120 : decode cX5_books 120 = .ok (.putfield 110, 3) := by decide +kernel
theorem dX5_books_123 : decode cX5_books 123 = .ok (.iconst (-1), 1) := by decide +kernel
theorem dX5_books_124 : decode cX5_books 124 = .ok (.ireturn, 1) := by decide +kernel
theorem dX5_lay_0 : decode cX5_lay 0 = .ok (.aload_n 0, 1) := by decide +kernel
theorem dX5_lay_1 : decode cX5_lay 1 = .ok (.getfield 19, 3) := by decide +kernel
theorem dX5_lay_4 : decode cX5_lay 4 = .ok (.aload_n 0, 1) := by decide +kernel
theorem dX5_lay_5 : decode cX5_lay 5 = .ok (.getfield 110, 3) := by decide +kernel
theorem dX5_lay_8 : decode cX5_lay 8 = .ok (.iload_n 1, 1) := by decide +kernel
theorem dX5_lay_9 : decode cX5_lay 9 = .ok (.iastore, 1) := by decide +kernel
theorem dX5_lay_10 : decode cX5_lay 10 = .ok (.aload_n 0, 1) := by decide +kernel
theorem dX5_lay_11 : decode cX5_lay 11 = .ok (.getfield 22, 3) := by decide +kernel
theorem dX5_lay_14 : decode cX5_lay 14 = .ok (.aload_n 0, 1) := by decide +kernel
theorem dX5_lay_15 : decode cX5_lay 15 = .ok (.getfield 110, 3) := by decide +kernel
theorem dX5_lay_18 : decode cX5_lay 18 = .ok (.iload_n 2, 1) := by decide +kernel
theorem dX5_lay_19 : decode cX5_lay 19 = .ok (.iastore, 1) := by decide +kernel
theorem dX5_lay_20 : decode cX5_lay 20 = .ok (.aload_n 0, 1) := by decide +kernel
theorem dX5_lay_21 : decode cX5_lay 21 = .ok (.getfield 25, 3) := by decide +kernel
theorem dX5_lay_24 : decode cX5_lay 24 = .ok (.aload_n 0, 1) := by decide +kernel
theorem dX5_lay_25 : decode cX5_lay 25 = .ok (.getfield 110, 3) := by decide +kernel
theorem dX5_lay_28 : decode cX5_lay 28 = .ok (.iload_n 3, 1) := by decide +kernel
theorem dX5_lay_29 : decode cX5_lay 29 = .ok (.iastore, 1) := by decide +kernel
theorem dX5_lay_30 : decode cX5_lay 30 = .ok (.aload_n 0, 1) := by decide +kernel
theorem dX5_lay_31 : decode cX5_lay 31 = .ok (.getfield 28, 3) := by decide +kernel
theorem dX5_lay_34 : decode cX5_lay 34 = .ok (.aload_n 0, 1) := by decide +kernel
theorem dX5_lay_35 : decode cX5_lay 35 = .ok (.getfield 110, 3) := by decide +kernel
theorem dX5_lay_38 : decode cX5_lay 38 = .ok (.iload 4, 2) := by decide +kernel
theorem dX5_lay_40 : decode cX5_lay 40 = .ok (.iastore, 1) := by decide +kernel
theorem dX5_lay_41 : decode cX5_lay 41 = .ok (.aload_n 0, 1) := by decide +kernel
theorem dX5_lay_42 : decode cX5_lay 42 = .ok (.getfield 31, 3) := by decide +kernel
theorem dX5_lay_45 : decode cX5_lay 45 = .ok (.aload_n 0, 1) := by decide +kernel
theorem dX5_lay_46 : decode cX5_lay 46 = .ok (.getfield 110, 3) := by decide +kernel
theorem dX5_lay_49 : decode cX5_lay 49 = .ok (.iload 5, 2) := by decide +kernel
theorem dX5_lay_51 : decode cX5_lay 51 = .ok (.iastore, 1) := by decide +kernel
theorem dX5_lay_52 : decode cX5_lay 52 = .ok (.return_, 1) := by decide +kernel
theorem dX5_isValue_0 : decode cX5_isValue 0 = .ok (.iload_n 0, 1) := by decide +kernel
theorem dX5_isValue_1 : decode cX5_isValue 1 = .ok (.ifCond .ne 21, 3) := by decide +kernel
theorem dX5_isValue_4 : decode cX5_isValue 4 = .ok (.iload_n 1, 1) := by decide +kernel
theorem dX5_isValue_5 : decode cX5_isValue 5 = .ok (.iconst 0, 1) := by decide +kernel
theorem dX5_isValue_6 : decode cX5_isValue 6 = .ok (.bipush 49, 2) := by decide +kernel
theorem dX5_isValue_8 : decode cX5_isValue 8 = .ok (.invokestatic 71, 3) := by decide +kernel
theorem dX5_isValue_11 : decode cX5_isValue 11 = .ok (.ifCond .ne 7, 3) := by decide +kernel
theorem dX5_isValue_14 : decode cX5_isValue 14 = .ok (.iconst 1, 1) := by decide +kernel
theorem dX5_isValue_15 : decode cX5_isValue 15 = .ok (.goto 46, 3) := by decide +kernel
theorem dX5_isValue_18 : decode cX5_isValue 18 = .ok (.iconst 0, 1) := by decide +kernel
theorem dX5_isValue_19 : decode cX5_isValue 19 = .ok (.goto 42, 3) := by decide +kernel
theorem dX5_isValue_22 : decode cX5_isValue 22 = .ok (.iload_n 0, 1) := by decide +kernel
theorem dX5_isValue_23 : decode cX5_isValue 23 = .ok (.iconst 1, 1) := by decide +kernel
theorem dX5_isValue_24 : decode cX5_isValue 24 = .ok (.if_icmp .ne 21, 3) := by decide +kernel
theorem dX5_isValue_27 : decode cX5_isValue 27 = .ok (.iload_n 1, 1) := by decide +kernel
theorem dX5_isValue_28 : decode cX5_isValue 28 = .ok (.iconst 0, 1) := by decide +kernel
theorem dX5_isValue_29 : decode cX5_isValue 29 = .ok (.bipush 9, 2) := by decide +kernel
theorem dX5_isValue_31 : decode cX5_isValue 31 = .ok (.invokestatic 71, 3) := by decide +kernel
theorem dX5_isValue_34 : decode cX5_isValue 34 = .ok (.ifCond .ne 7, 3) := by decide +kernel
theorem dX5_isValue_37 : decode cX5_isValue 37 = .ok (.iconst 1, 1) := by decide +kernel
theorem dX5_isValue_38 : decode cX5_isValue 38 = .ok (.goto 23, 3) := by decide +kernel
theorem dX5_isValue_41 : decode cX5_isValue 41 = .ok (.iconst 0, 1) := by decide +kernel
theorem dX5_isValue_42 : decode cX5_isValue 42 = .ok (.goto 19, 3) := by decide +kernel
theorem dX5_isValue_45 : decode cX5_isValue 45 = .ok (.iload_n 1, 1) := by decide +kernel
theorem dX5_isValue_46 : decode cX5_isValue 46 = .ok (.iconst 1, 1) := by decide +kernel
theorem dX5_isValue_47 : decode cX5_isValue 47 = .ok (.sipush 999, 3) := by decide +kernel
theorem dX5_isValue_50 : decode cX5_isValue 50 = .ok (.invokestatic 71, 3) := by decide +kernel
theorem dX5_isValue_53 : decode cX5_isValue 53 = .ok (.ifCond .ne 7, 3) := by decide +kernel
theorem dX5_isValue_56 : decode cX5_isValue 56 = .ok (.iconst 1, 1) := by decide +kernel
theorem dX5_isValue_57 : decode cX5_isValue 57 = .ok (.goto 4, 3) := by decide +kernel
theorem dX5_isValue_60 : decode cX5_isValue 60 = .ok (.iconst 0, 1) := by decide +kernel
theorem dX5_isValue_61 : decode cX5_isValue 61 = .ok (.ireturn, 1) := by decide +kernel
theorem dX5_bind_0 : decode cX5_bind 0 = .ok (.iload_n 1, 1) := by decide +kernel
theorem dX5_bind_1 : decode cX5_bind 1 = .ok (.iconst 0, 1) := by decide +kernel
theorem dX5_bind_2 : decode cX5_bind 2 = .ok (.sipush 999, 3) := by decide +kernel
theorem dX5_bind_5 : decode cX5_bind 5 = .ok (.invokestatic 71, 3) := by decide +kernel
theorem dX5_bind_8 : decode cX5_bind 8 = .ok (.ifCond .ne 40, 3) := by decide +kernel
theorem dX5_bind_11 : decode cX5_bind 11 = .ok (.iload_n 2, 1) := by decide +kernel
theorem dX5_bind_12 : decode cX5_bind 12 = .ok (.iconst 1, 1) := by decide +kernel
theorem dX5_bind_13 : decode cX5_bind 13 = .ok (.sipush 200, 3) := by decide +kernel
theorem dX5_bind_16 : decode cX5_bind 16 = .ok (.invokestatic 71, 3) := by decide +kernel
theorem dX5_bind_19 : decode cX5_bind 19 = .ok (.ifCond .ne 29, 3) := by decide +kernel
theorem dX5_bind_22 : decode cX5_bind 22 = .ok (.iconst 0, 1) := by decide +kernel
theorem dX5_bind_23 : decode cX5_bind 23 = .ok (.iload_n 3, 1) := by decide +kernel
theorem dX5_bind_24 : decode cX5_bind 24 = .ok (.invokestatic 156, 3) := by decide +kernel
theorem dX5_bind_27 : decode cX5_bind 27 = .ok (.ifCond .eq 21, 3) := by decide +kernel
theorem dX5_bind_30 : decode cX5_bind 30 = .ok (.iconst 1, 1) := by decide +kernel
theorem dX5_bind_31 : decode cX5_bind 31 = .ok (.iload 4, 2) := by decide +kernel
theorem dX5_bind_33 : decode cX5_bind 33 = .ok (.invokestatic 156, 3) := by decide +kernel
theorem dX5_bind_36 : decode cX5_bind 36 = .ok (.ifCond .eq 12, 3) := by decide +kernel
theorem dX5_bind_39 : decode cX5_bind 39 = .ok (.iconst 2, 1) := by decide +kernel
theorem dX5_bind_40 : decode cX5_bind 40 = .ok (.iload 5, 2) := by decide +kernel
theorem dX5_bind_42 : decode cX5_bind 42 = .ok (.invokestatic 156, 3) := by decide +kernel
theorem dX5_bind_45 : decode cX5_bind 45 = .ok (.ifCond .ne 7, 3) := by decide +kernel
theorem dX5_bind_48 : decode cX5_bind 48 = .ok (.iconst 1, 1) := by decide +kernel
theorem dX5_bind_49 : decode cX5_bind 49 = .ok (.goto 4, 3) := by decide +kernel
theorem dX5_bind_52 : decode cX5_bind 52 = .ok (.iconst 0, 1) := by decide +kernel
theorem dX5_bind_53 : decode cX5_bind 53 = .ok (.istore 6, 2) := by decide +kernel
theorem dX5_bind_55 : decode cX5_bind 55 = .ok (.aload_n 0, 1) := by decide +kernel
theorem dX5_bind_56 : decode cX5_bind 56 = .ok (.aload_n 0, 1) := by decide +kernel
theorem dX5_bind_57 : decode cX5_bind 57 = .ok (.invokevirtual 88, 3) := by decide +kernel
theorem dX5_bind_60 : decode cX5_bind 60 = .ok (.ifCond .ge 21, 3) := by decide +kernel
theorem dX5_bind_63 : decode cX5_bind 63 = .ok (.aload_n 0, 1) := by decide +kernel
theorem dX5_bind_64 : decode cX5_bind 64 = .ok (.getfield 75, 3) := by decide +kernel
theorem dX5_bind_67 : decode cX5_bind 67 = .ok (.bipush 6, 2) := by decide +kernel
theorem dX5_bind_69 : decode cX5_bind 69 = .ok (.if_icmp .eq 12, 3) := by decide +kernel
theorem dX5_bind_72 : decode cX5_bind 72 = .ok (.aload_n 0, 1) := by decide +kernel
theorem dX5_bind_73 : decode cX5_bind 73 = .ok (.getfield 110, 3) := by decide +kernel
theorem dX5_bind_76 : decode cX5_bind 76 = .ok (.bipush 40, 2) := by decide +kernel
theorem dX5_bind_78 : decode cX5_bind 78 = .ok (.if_icmp .ne 7, 3) := by decide +kernel
theorem dX5_bind_81 : decode cX5_bind 81 = .ok (.iconst 1, 1) := by decide +kernel
theorem dX5_bind_82 : decode cX5_bind 82 = .ok (.goto 4, 3) := by decide +kernel
theorem dX5_bind_85 : decode cX5_bind 85 = .ok (.iconst 0, 1) := by decide +kernel
theorem dX5_bind_86 : decode cX5_bind 86 = .ok (.iload 6, 2) := by decide +kernel
theorem dX5_bind_88 : decode cX5_bind 88 = .ok (.iconst 0, 1) := by decide +kernel
theorem dX5_bind_89 : decode cX5_bind 89 = .ok (.invokevirtual 81, 3) := by decide +kernel
theorem dX5_bind_92 : decode cX5_bind 92 = .ok (.ifCond .eq 5, 3) := by decide +kernel
theorem dX5_bind_95 : decode cX5_bind 95 = .ok (.iconst 0, 1) := by decide +kernel
theorem dX5_bind_96 : decode cX5_bind 96 = .ok (.ireturn, 1) := by decide +kernel
theorem dX5_bind_97 : decode cX5_bind 97 = .ok (.aload_n 0, 1) := by decide +kernel
theorem dX5_bind_98 : decode cX5_bind 98 = .ok (.getfield 13, 3) := by decide +kernel
theorem dX5_bind_101 : decode cX5_bind 101 = .ok (.aload_n 0, 1) := by decide +kernel
theorem dX5_bind_102 : decode cX5_bind 102 = .ok (.getfield 75, 3) := by decide +kernel
theorem dX5_bind_105 : decode cX5_bind 105 = .ok (.iload_n 1, 1) := by decide +kernel
theorem dX5_bind_106 : decode cX5_bind 106 = .ok (.iastore, 1) := by decide +kernel
theorem dX5_bind_107 : decode cX5_bind 107 = .ok (.aload_n 0, 1) := by decide +kernel
theorem dX5_bind_108 : decode cX5_bind 108 = .ok (.getfield 16, 3) := by decide +kernel
theorem dX5_bind_111 : decode cX5_bind 111 = .ok (.aload_n 0, 1) := by decide +kernel
theorem dX5_bind_112 : decode cX5_bind 112 = .ok (.getfield 75, 3) := by decide +kernel
theorem dX5_bind_115 : decode cX5_bind 115 = .ok (.sipush 999, 3) := by decide +kernel
theorem dX5_bind_118 : decode cX5_bind 118 = .ok (.iload_n 1, 1) := by decide +kernel
theorem dX5_bind_119 : decode cX5_bind 119 = .ok (.iload_n 2, 1) := by decide +kernel
theorem dX5_bind_120 : decode cX5_bind 120 = .ok (.iadd, 1) := by decide +kernel
theorem dX5_bind_121 : decode cX5_bind 121 = .ok (.iconst 1, 1) := by decide +kernel
theorem dX5_bind_122 : decode cX5_bind 122 = .ok (.isub, 1) := by decide +kernel
theorem dX5_bind_123 : decode cX5_bind 123 = .ok (.invokestatic 159, 3) := by decide +kernel
theorem dX5_bind_126 : decode cX5_bind 126 = .ok (.iastore, 1) := by decide +kernel
theorem dX5_bind_127 : decode cX5_bind 127 = .ok (.aload_n 0, 1) := by decide +kernel
theorem dX5_bind_128 : decode cX5_bind 128 = .ok (.iconst 0, 1) := by decide +kernel
theorem dX5_bind_129 : decode cX5_bind 129 = .ok (.aload_n 0, 1) := by decide +kernel
theorem dX5_bind_130 : decode cX5_bind 130 = .ok (.getfield 75, 3) := by decide +kernel
theorem dX5_bind_133 : decode cX5_bind 133 = .ok (.iload_n 1, 1) := by decide +kernel
theorem dX5_bind_134 : decode cX5_bind 134 = .ok (.iconst 0, 1) := by decide +kernel
theorem dX5_bind_135 : decode cX5_bind 135 = .ok (.ldc 113, 2) := by decide +kernel
theorem dX5_bind_137 : decode cX5_bind 137 = .ok (.iload_n 3, 1) := by decide +kernel
theorem dX5_bind_138 : decode cX5_bind 138 = .ok (.imul, 1) := by decide +kernel
theorem dX5_bind_139 : decode cX5_bind 139 = .ok (.sipush 1000, 3) := by decide +kernel
theorem dX5_bind_142 : decode cX5_bind 142 = .ok (.iload 4, 2) := by decide +kernel
theorem dX5_bind_144 : decode cX5_bind 144 = .ok (.imul, 1) := by decide +kernel
theorem dX5_bind_145 : decode cX5_bind 145 = .ok (.iadd, 1) := by decide +kernel
theorem dX5_bind_146 : decode cX5_bind 146 = .ok (.iload 5, 2) := by decide +kernel
theorem dX5_bind_148 : decode cX5_bind 148 = .ok (.iadd, 1) := by decide +kernel
theorem dX5_bind_149 : decode cX5_bind 149 = .ok (.invokevirtual 162, 3) := by decide +kernel
theorem dX5_bind_152 : decode cX5_bind 152 = .ok (.aload_n 0, 1) := by decide +kernel
theorem dX5_bind_153 : decode cX5_bind 153 = .ok (.dup, 1) := by decide +kernel
theorem dX5_bind_154 : decode cX5_bind 154 = .ok (.getfield 75, 3) := by decide +kernel
theorem dX5_bind_157 : decode cX5_bind 157 = .ok (.iconst 1, 1) := by decide +kernel
theorem dX5_bind_158 : decode cX5_bind 158 = .ok (.iadd, 1) := by decide +kernel
theorem dX5_bind_159 : decode cX5_bind 159 = .ok (.putfield 75, 3) := by decide +kernel
theorem dX5_bind_162 : decode cX5_bind 162 = .ok (.aload_n 0, 1) := by decide +kernel
theorem dX5_bind_163 : decode cX5_bind 163 = .ok (.iconst 0, 1) := by decide +kernel
theorem dX5_bind_164 : decode cX5_bind 164 = .ok (.invokevirtual 166, 3) := by decide +kernel
theorem dX5_bind_167 : decode cX5_bind 167 = .ok (.ifCond .ge 20, 3) := by decide +kernel
theorem dX5_bind_170 : decode cX5_bind 170 = .ok (.aload_n 0, 1) := by decide +kernel
theorem dX5_bind_171 : decode cX5_bind 171 = .ok (.dup, 1) := by decide +kernel
theorem dX5_bind_172 : decode cX5_bind 172 = .ok (.getfield 75, 3) := by decide +kernel
theorem dX5_bind_175 : decode cX5_bind 175 = .ok (.iconst 1, 1) := by decide +kernel
theorem dX5_bind_176 : decode cX5_bind 176 = .ok (.isub, 1) := by decide +kernel
theorem dX5_bind_177 : decode cX5_bind 177 = .ok (.putfield 75, 3) := by decide +kernel
theorem dX5_bind_180 : decode cX5_bind 180 = .ok (.aload_n 0, 1) := by decide +kernel
theorem dX5_bind_181 : decode cX5_bind 181 = .ok (.iconst 3, 1) := by decide +kernel
theorem dX5_bind_182 : decode cX5_bind 182 = .ok (.putfield 68, 3) := by decide +kernel
theorem dX5_bind_185 : decode cX5_bind 185 = .ok (.iconst 0, 1) := by decide +kernel
theorem dX5_bind_186 : decode cX5_bind 186 = .ok (.ireturn, 1) := by decide +kernel
theorem dX5_bind_187 : decode cX5_bind 187 = .ok (.aload_n 0, 1) := by decide +kernel
theorem dX5_bind_188 : decode cX5_bind 188 = .ok (.getfield 75, 3) := by decide +kernel
theorem dX5_bind_191 : decode cX5_bind 191 = .ok (.iconst 1, 1) := by decide +kernel
theorem dX5_bind_192 : decode cX5_bind 192 = .ok (.isub, 1) := by decide +kernel
theorem dX5_bind_193 : decode cX5_bind 193 = .ok (.ireturn, 1) := by decide +kernel
theorem dX5_bookedOr_0 : decode cX5_bookedOr 0 = .ok (.aload_n 0, 1) := by decide +kernel
theorem dX5_bookedOr_1 : decode cX5_bookedOr 1 = .ok (.iload_n 1, 1) := by decide +kernel
theorem dX5_bookedOr_2 : decode cX5_bookedOr 2 = .ok (.invokevirtual 166, 3) := by decide +kernel
theorem dX5_bookedOr_5 : decode cX5_bookedOr 5 = .ok (.istore_n 2, 1) := by decide +kernel
theorem dX5_bookedOr_6 : decode cX5_bookedOr 6 = .ok (.aload_n 0, 1) := by decide +kernel
theorem dX5_bookedOr_7 : decode cX5_bookedOr 7 = .ok (.iload_n 2, 1) := by decide +kernel
theorem dX5_bookedOr_8 : decode cX5_bookedOr 8 = .ok (.ifCond .ge 7, 3) := by decide +kernel
theorem dX5_bookedOr_11 : decode cX5_bookedOr 11 = .ok (.iconst 4, 1) := by decide +kernel
theorem dX5_bookedOr_12 : decode cX5_bookedOr 12 = .ok (.goto 4, 3) := by decide +kernel
theorem dX5_bookedOr_15 : decode cX5_bookedOr 15 = .ok (.iconst 0, 1) := by decide +kernel
theorem dX5_bookedOr_16 : decode cX5_bookedOr 16 = .ok (.putfield 68, 3) := by decide +kernel
theorem dX5_bookedOr_19 : decode cX5_bookedOr 19 = .ok (.iload_n 2, 1) := by decide +kernel
theorem dX5_bookedOr_20 : decode cX5_bookedOr 20 = .ok (.ifCond .ge 7, 3) := by decide +kernel
theorem dX5_bookedOr_23 : decode cX5_bookedOr 23 = .ok (.iconst 0, 1) := by decide +kernel
theorem dX5_bookedOr_24 : decode cX5_bookedOr 24 = .ok (.goto 4, 3) := by decide +kernel
theorem dX5_bookedOr_27 : decode cX5_bookedOr 27 = .ok (.iload_n 2, 1) := by decide +kernel
theorem dX5_bookedOr_28 : decode cX5_bookedOr 28 = .ok (.ireturn, 1) := by decide +kernel
theorem dX5_change_0 : decode cX5_change 0 = .ok (.aload_n 0, 1) := by decide +kernel
theorem dX5_change_1 : decode cX5_change 1 = .ok (.iload_n 1, 1) := by decide +kernel
theorem dX5_change_2 : decode cX5_change 2 = .ok (.invokevirtual 170, 3) := by decide +kernel
theorem dX5_change_5 : decode cX5_change 5 = .ok (.ifCond .eq 12, 3) := by decide +kernel
theorem dX5_change_8 : decode cX5_change 8 = .ok (.iload_n 3, 1) := by decide +kernel
theorem dX5_change_9 : decode cX5_change 9 = .ok (.iconst 0, 1) := by decide +kernel
theorem dX5_change_10 : decode cX5_change 10 = .ok (.iconst 2, 1) := by decide +kernel
theorem dX5_change_11 : decode cX5_change 11 = .ok (.invokestatic 71, 3) := by decide +kernel
theorem dX5_change_14 : decode cX5_change 14 = .ok (.ifCond .eq 7, 3) := by decide +kernel
theorem dX5_change_17 : decode cX5_change 17 = .ok (.iconst 1, 1) := by decide +kernel
theorem dX5_change_18 : decode cX5_change 18 = .ok (.goto 4, 3) := by decide +kernel
theorem dX5_change_21 : decode cX5_change 21 = .ok (.iconst 0, 1) := by decide +kernel
theorem dX5_change_22 : decode cX5_change 22 = .ok (.istore 5, 2) := by decide +kernel
theorem dX5_change_24 : decode cX5_change 24 = .ok (.aload_n 0, 1) := by decide +kernel
theorem dX5_change_25 : decode cX5_change 25 = .ok (.iload 5, 2) := by decide +kernel
theorem dX5_change_27 : decode cX5_change 27 = .ok (.iload 5, 2) := by decide +kernel
theorem dX5_change_29 : decode cX5_change 29 = .ok (.ifCond .ne 25, 3) := by decide +kernel
theorem dX5_change_32 : decode cX5_change 32 = .ok (.aload_n 0, 1) := by decide +kernel
theorem dX5_change_33 : decode cX5_change 33 = .ok (.iload_n 1, 1) := by decide +kernel
theorem dX5_change_34 : decode cX5_change 34 = .ok (.iload_n 2, 1) := by decide +kernel
theorem dX5_change_35 : decode cX5_change 35 = .ok (.invokevirtual 118, 3) := by decide +kernel
theorem dX5_change_38 : decode cX5_change 38 = .ok (.ifCond .eq 12, 3) := by decide +kernel
theorem dX5_change_41 : decode cX5_change 41 = .ok (.iload_n 3, 1) := by decide +kernel
theorem dX5_change_42 : decode cX5_change 42 = .ok (.iload 4, 2) := by decide +kernel
theorem dX5_change_44 : decode cX5_change 44 = .ok (.invokestatic 156, 3) := by decide +kernel
theorem dX5_change_47 : decode cX5_change 47 = .ok (.ifCond .ne 7, 3) := by decide +kernel
theorem dX5_change_50 : decode cX5_change 50 = .ok (.iconst 1, 1) := by decide +kernel
theorem dX5_change_51 : decode cX5_change 51 = .ok (.goto 4, 3) := by decide +kernel
theorem dX5_change_54 : decode cX5_change 54 = .ok (.iconst 0, 1) := by decide +kernel
theorem dX5_change_55 : decode cX5_change 55 = .ok (.iload 5, 2) := by decide +kernel
theorem dX5_change_57 : decode cX5_change 57 = .ok (.ifCond .ne 27, 3) := by decide +kernel
theorem dX5_change_60 : decode cX5_change 60 = .ok (.aload_n 0, 1) := by decide +kernel
theorem dX5_change_61 : decode cX5_change 61 = .ok (.iload_n 1, 1) := by decide +kernel
theorem dX5_change_62 : decode cX5_change 62 = .ok (.iload_n 2, 1) := by decide +kernel
theorem dX5_change_63 : decode cX5_change 63 = .ok (.bipush 99, 2) := by decide +kernel
theorem dX5_change_65 : decode cX5_change 65 = .ok (.invokevirtual 174, 3) := by decide +kernel
theorem dX5_change_68 : decode cX5_change 68 = .ok (.ifCond .eq 12, 3) := by decide +kernel
theorem dX5_change_71 : decode cX5_change 71 = .ok (.aload_n 0, 1) := by decide +kernel
theorem dX5_change_72 : decode cX5_change 72 = .ok (.getfield 110, 3) := by decide +kernel
theorem dX5_change_75 : decode cX5_change 75 = .ok (.bipush 40, 2) := by decide +kernel
theorem dX5_change_77 : decode cX5_change 77 = .ok (.if_icmp .ne 7, 3) := by decide +kernel
theorem dX5_change_80 : decode cX5_change 80 = .ok (.iconst 1, 1) := by decide +kernel
theorem dX5_change_81 : decode cX5_change 81 = .ok (.goto 4, 3) := by decide +kernel
theorem dX5_change_84 : decode cX5_change 84 = .ok (.iconst 0, 1) := by decide +kernel
theorem dX5_change_85 : decode cX5_change 85 = .ok (.invokevirtual 81, 3) := by decide +kernel
theorem dX5_change_88 : decode cX5_change 88 = .ok (.ifCond .eq 5, 3) := by decide +kernel
theorem dX5_change_91 : decode cX5_change 91 = .ok (.iconst 0, 1) := by decide +kernel
theorem dX5_change_92 : decode cX5_change 92 = .ok (.ireturn, 1) := by decide +kernel
theorem dX5_change_93 : decode cX5_change 93 = .ok (.aload_n 0, 1) := by decide +kernel
theorem dX5_change_94 : decode cX5_change 94 = .ok (.iconst 1, 1) := by decide +kernel
theorem dX5_change_95 : decode cX5_change 95 = .ok (.iload_n 1, 1) := by decide +kernel
theorem dX5_change_96 : decode cX5_change 96 = .ok (.iload_n 2, 1) := by decide +kernel
theorem dX5_change_97 : decode cX5_change 97 = .ok (.iload_n 3, 1) := by decide +kernel
theorem dX5_change_98 : decode cX5_change 98 = .ok (.iload 4, 2) := by decide +kernel
theorem dX5_change_100 : decode cX5_change 100 = .ok (.invokevirtual 162, 3) := by decide +kernel
theorem dX5_change_103 : decode cX5_change 103 = .ok (.aload_n 0, 1) := by decide +kernel
theorem dX5_change_104 : decode cX5_change 104 = .ok (.iconst 0, 1) := by decide +kernel
theorem dX5_change_105 : decode cX5_change 105 = .ok (.invokevirtual 177, 3) := by decide +kernel
theorem dX5_change_108 : decode cX5_change 108 = .ok (.ireturn, 1) := by decide +kernel
theorem dX5_turns_0 : decode cX5_turns 0 = .ok (.aload_n 0, 1) := by decide +kernel
theorem dX5_turns_1 : decode cX5_turns 1 = .ok (.iload_n 2, 1) := by decide +kernel
theorem dX5_turns_2 : decode cX5_turns 2 = .ok (.invokevirtual 170, 3) := by decide +kernel
theorem dX5_turns_5 : decode cX5_turns 5 = .ok (.istore 5, 2) := by decide +kernel
theorem dX5_turns_7 : decode cX5_turns 7 = .ok (.aload_n 0, 1) := by decide +kernel
theorem dX5_turns_8 : decode cX5_turns 8 = .ok (.iload 5, 2) := by decide +kernel
theorem dX5_turns_10 : decode cX5_turns 10 = .ok (.ifCond .ne 7, 3) := by decide +kernel
theorem dX5_turns_13 : decode cX5_turns 13 = .ok (.iconst 1, 1) := by decide +kernel
theorem dX5_turns_14 : decode cX5_turns 14 = .ok (.goto 4, 3) := by decide +kernel
theorem dX5_turns_17 : decode cX5_turns 17 = .ok (.iconst 0, 1) := by decide +kernel
theorem dX5_turns_18 : decode cX5_turns 18 = .ok (.iload 5, 2) := by decide +kernel
theorem dX5_turns_20 : decode cX5_turns 20 = .ok (.ifCond .eq 16, 3) := by decide +kernel
theorem dX5_turns_23 : decode cX5_turns 23 = .ok (.aload_n 0, 1) := by decide +kernel
theorem dX5_turns_24 : decode cX5_turns 24 = .ok (.iload_n 2, 1) := by decide +kernel
theorem dX5_turns_25 : decode cX5_turns 25 = .ok (.iload_n 3, 1) := by decide +kernel
theorem dX5_turns_26 : decode cX5_turns 26 = .ok (.invokevirtual 118, 3) := by decide +kernel
theorem dX5_turns_29 : decode cX5_turns 29 = .ok (.ifCond .ne 7, 3) := by decide +kernel
theorem dX5_turns_32 : decode cX5_turns 32 = .ok (.iconst 1, 1) := by decide +kernel
theorem dX5_turns_33 : decode cX5_turns 33 = .ok (.goto 4, 3) := by decide +kernel
theorem dX5_turns_36 : decode cX5_turns 36 = .ok (.iconst 0, 1) := by decide +kernel
theorem dX5_turns_37 : decode cX5_turns 37 = .ok (.iload 5, 2) := by decide +kernel
theorem dX5_turns_39 : decode cX5_turns 39 = .ok (.ifCond .eq 37, 3) := by decide +kernel
theorem dX5_turns_42 : decode cX5_turns 42 = .ok (.aload_n 0, 1) := by decide +kernel
theorem dX5_turns_43 : decode cX5_turns 43 = .ok (.iload_n 2, 1) := by decide +kernel
theorem dX5_turns_44 : decode cX5_turns 44 = .ok (.iload_n 3, 1) := by decide +kernel
theorem dX5_turns_45 : decode cX5_turns 45 = .ok (.bipush 99, 2) := by decide +kernel
theorem dX5_turns_47 : decode cX5_turns 47 = .ok (.invokevirtual 174, 3) := by decide +kernel
theorem dX5_turns_50 : decode cX5_turns 50 = .ok (.iload_n 1, 1) := by decide +kernel
theorem dX5_turns_51 : decode cX5_turns 51 = .ok (.iconst 3, 1) := by decide +kernel
theorem dX5_turns_52 : decode cX5_turns 52 = .ok (.if_icmp .ne 7, 3) := by decide +kernel
theorem dX5_turns_55 : decode cX5_turns 55 = .ok (.iconst 1, 1) := by decide +kernel
theorem dX5_turns_56 : decode cX5_turns 56 = .ok (.goto 4, 3) := by decide +kernel
theorem dX5_turns_59 : decode cX5_turns 59 = .ok (.iconst 0, 1) := by decide +kernel
theorem dX5_turns_60 : decode cX5_turns 60 = .ok (.if_icmp .eq 12, 3) := by decide +kernel
theorem dX5_turns_63 : decode cX5_turns 63 = .ok (.aload_n 0, 1) := by decide +kernel
theorem dX5_turns_64 : decode cX5_turns 64 = .ok (.getfield 110, 3) := by decide +kernel
theorem dX5_turns_67 : decode cX5_turns 67 = .ok (.bipush 40, 2) := by decide +kernel
theorem dX5_turns_69 : decode cX5_turns 69 = .ok (.if_icmp .ne 7, 3) := by decide +kernel
theorem dX5_turns_72 : decode cX5_turns 72 = .ok (.iconst 1, 1) := by decide +kernel
theorem dX5_turns_73 : decode cX5_turns 73 = .ok (.goto 4, 3) := by decide +kernel
theorem dX5_turns_76 : decode cX5_turns 76 = .ok (.iconst 0, 1) := by decide +kernel
theorem dX5_turns_77 : decode cX5_turns 77 = .ok (.invokevirtual 81, 3) := by decide +kernel
theorem dX5_turns_80 : decode cX5_turns 80 = .ok (.ifCond .eq 5, 3) := by decide +kernel
theorem dX5_turns_83 : decode cX5_turns 83 = .ok (.iconst 0, 1) := by decide +kernel
theorem dX5_turns_84 : decode cX5_turns 84 = .ok (.ireturn, 1) := by decide +kernel
theorem dX5_turns_85 : decode cX5_turns 85 = .ok (.aload_n 0, 1) := by decide +kernel
theorem dX5_turns_86 : decode cX5_turns 86 = .ok (.iload_n 1, 1) := by decide +kernel
theorem dX5_turns_87 : decode cX5_turns 87 = .ok (.iload_n 2, 1) := by decide +kernel
theorem dX5_turns_88 : decode cX5_turns 88 = .ok (.iload_n 3, 1) := by decide +kernel
theorem dX5_turns_89 : decode cX5_turns 89 = .ok (.iconst 0, 1) := by decide +kernel
theorem dX5_turns_90 : decode cX5_turns 90 = .ok (.iconst 0, 1) := by decide +kernel
theorem dX5_turns_91 : decode cX5_turns 91 = .ok (.invokevirtual 162, 3) := by decide +kernel
theorem dX5_turns_94 : decode cX5_turns 94 = .ok (.aload_n 0, 1) := by decide +kernel
theorem dX5_turns_95 : decode cX5_turns 95 = .ok (.iload 4, 2) := by decide +kernel
theorem dX5_turns_97 : decode cX5_turns 97 = .ok (.invokevirtual 177, 3) := by decide +kernel
theorem dX5_turns_100 : decode cX5_turns 100 = .ok (.ireturn, 1) := by decide +kernel
theorem dX5_cancel_0 : decode cX5_cancel 0 = .ok (.aload_n 0, 1) := by decide +kernel
theorem dX5_cancel_1 : decode cX5_cancel 1 = .ok (.iconst 2, 1) := by decide +kernel
theorem dX5_cancel_2 : decode cX5_cancel 2 = .ok (.iload_n 1, 1) := by decide +kernel
theorem dX5_cancel_3 : decode cX5_cancel 3 = .ok (.iload_n 2, 1) := by decide +kernel
theorem dX5_cancel_4 : decode cX5_cancel 4 = .ok (.iload_n 3, 1) := by decide +kernel
theorem dX5_cancel_5 : decode cX5_cancel 5 = .ok (.invokevirtual 180, 3) := by decide +kernel
theorem dX5_cancel_8 : decode cX5_cancel 8 = .ok (.ireturn, 1) := by decide +kernel
theorem dX5_reinstate_0 : decode cX5_reinstate 0 = .ok (.aload_n 0, 1) := by decide +kernel
theorem dX5_reinstate_1 : decode cX5_reinstate 1 = .ok (.iconst 3, 1) := by decide +kernel
theorem dX5_reinstate_2 : decode cX5_reinstate 2 = .ok (.iload_n 1, 1) := by decide +kernel
theorem dX5_reinstate_3 : decode cX5_reinstate 3 = .ok (.iload_n 2, 1) := by decide +kernel
theorem dX5_reinstate_4 : decode cX5_reinstate 4 = .ok (.iconst 0, 1) := by decide +kernel
theorem dX5_reinstate_5 : decode cX5_reinstate 5 = .ok (.invokevirtual 180, 3) := by decide +kernel
theorem dX5_reinstate_8 : decode cX5_reinstate 8 = .ok (.ireturn, 1) := by decide +kernel
theorem dX5_before_0 : decode cX5_before 0 = .ok (.iconst 0, 1) := by decide +kernel
theorem dX5_before_1 : decode cX5_before 1 = .ok (.istore_n 3, 1) := by decide +kernel
theorem dX5_before_2 : decode cX5_before 2 = .ok (.iconst 0, 1) := by decide +kernel
theorem dX5_before_3 : decode cX5_before 3 = .ok (.istore 4, 2) := by decide +kernel
theorem dX5_before_5 : decode cX5_before 5 = .ok (.iload 4, 2) := by decide +kernel
theorem dX5_before_7 : decode cX5_before 7 = .ok (.aload_n 0, 1) := by decide +kernel
theorem dX5_before_8 : decode cX5_before 8 = .ok (.getfield 95, 3) := by decide +kernel
theorem dX5_before_11 : decode cX5_before 11 = .ok (.if_icmp .ge 46, 3) := by decide +kernel
theorem dX5_before_14 : decode cX5_before 14 = .ok (.iload_n 3, 1) := by decide +kernel
theorem dX5_before_15 : decode cX5_before 15 = .ok (.iload_n 1, 1) := by decide +kernel
theorem dX5_before_16 : decode cX5_before 16 = .ok (.ifCond .lt 17, 3) := by decide +kernel
theorem dX5_before_19 : decode cX5_before 19 = .ok (.aload_n 0, 1) := by decide +kernel
theorem dX5_before_20 : decode cX5_before 20 = .ok (.getfield 65, 3) := by decide +kernel
theorem dX5_before_23 : decode cX5_before 23 = .ok (.bipush 6, 2) := by decide +kernel
theorem dX5_before_25 : decode cX5_before 25 = .ok (.iload 4, 2) := by decide +kernel
theorem dX5_before_27 : decode cX5_before 27 = .ok (.imul, 1) := by decide +kernel
theorem dX5_before_28 : decode cX5_before 28 = .ok (.iaload, 1) := by decide +kernel
theorem dX5_before_29 : decode cX5_before 29 = .ok (.iload_n 1, 1) := by decide +kernel
theorem dX5_before_30 : decode cX5_before 30 = .ok (.if_icmp .ne 18, 3) := by decide +kernel
theorem dX5_before_33 : decode cX5_before 33 = .ok (.aload_n 0, 1) := by decide +kernel
theorem dX5_before_34 : decode cX5_before 34 = .ok (.getfield 65, 3) := by decide +kernel
theorem dX5_before_37 : decode cX5_before 37 = .ok (.bipush 6, 2) := by decide +kernel
theorem dX5_before_39 : decode cX5_before 39 = .ok (.iload 4, 2) := by decide +kernel
theorem dX5_before_41 : decode cX5_before 41 = .ok (.imul, 1) := by decide +kernel
theorem dX5_before_42 : decode cX5_before 42 = .ok (.iload_n 2, 1) := by decide +kernel
theorem dX5_before_43 : decode cX5_before 43 = .ok (.iadd, 1) := by decide +kernel
theorem dX5_before_44 : decode cX5_before 44 = .ok (.iaload, 1) := by decide +kernel
theorem dX5_before_45 : decode cX5_before 45 = .ok (.goto 4, 3) := by decide +kernel
theorem dX5_before_48 : decode cX5_before 48 = .ok (.iconst 0, 1) := by decide +kernel
theorem dX5_before_49 : decode cX5_before 49 = .ok (.iadd, 1) := by decide +kernel
theorem dX5_before_50 : decode cX5_before 50 = .ok (.istore_n 3, 1) := by decide +kernel
theorem dX5_before_51 : decode cX5_before 51 = .ok (.iinc 4 1, 3) := by decide +kernel
theorem dX5_before_54 : decode cX5_before 54 = .ok (.goto (-49), 3) := by decide +kernel
theorem dX5_before_57 : decode cX5_before 57 = .ok (.iload_n 3, 1) := by decide +kernel
theorem dX5_before_58 : decode cX5_before 58 = .ok (.ireturn, 1) := by decide +kernel
theorem dX5_claim_0 : decode cX5_claim 0 = .ok (.aload_n 0, 1) := by decide +kernel
theorem dX5_claim_1 : decode cX5_claim 1 = .ok (.iload_n 1, 1) := by decide +kernel
theorem dX5_claim_2 : decode cX5_claim 2 = .ok (.invokevirtual 170, 3) := by decide +kernel
theorem dX5_claim_5 : decode cX5_claim 5 = .ok (.istore 4, 2) := by decide +kernel
theorem dX5_claim_7 : decode cX5_claim 7 = .ok (.aload_n 0, 1) := by decide +kernel
theorem dX5_claim_8 : decode cX5_claim 8 = .ok (.iload 4, 2) := by decide +kernel
theorem dX5_claim_10 : decode cX5_claim 10 = .ok (.ifCond .ne 7, 3) := by decide +kernel
theorem dX5_claim_13 : decode cX5_claim 13 = .ok (.iconst 1, 1) := by decide +kernel
theorem dX5_claim_14 : decode cX5_claim 14 = .ok (.goto 4, 3) := by decide +kernel
theorem dX5_claim_17 : decode cX5_claim 17 = .ok (.iconst 0, 1) := by decide +kernel
theorem dX5_claim_18 : decode cX5_claim 18 = .ok (.iload_n 2, 1) := by decide +kernel
theorem dX5_claim_19 : decode cX5_claim 19 = .ok (.iconst 0, 1) := by decide +kernel
theorem dX5_claim_20 : decode cX5_claim 20 = .ok (.sipush 999, 3) := by decide +kernel
theorem dX5_claim_23 : decode cX5_claim 23 = .ok (.invokestatic 71, 3) := by decide +kernel
theorem dX5_claim_26 : decode cX5_claim 26 = .ok (.ifCond .ne 14, 3) := by decide +kernel
theorem dX5_claim_29 : decode cX5_claim 29 = .ok (.iload_n 3, 1) := by decide +kernel
theorem dX5_claim_30 : decode cX5_claim 30 = .ok (.iconst 1, 1) := by decide +kernel
theorem dX5_claim_31 : decode cX5_claim 31 = .ok (.sipush 9999, 3) := by decide +kernel
theorem dX5_claim_34 : decode cX5_claim 34 = .ok (.invokestatic 71, 3) := by decide +kernel
theorem dX5_claim_37 : decode cX5_claim 37 = .ok (.ifCond .eq 7, 3) := by decide +kernel
theorem dX5_claim_40 : decode cX5_claim 40 = .ok (.iconst 1, 1) := by decide +kernel
theorem dX5_claim_41 : decode cX5_claim 41 = .ok (.goto 4, 3) := by decide +kernel
theorem dX5_claim_44 : decode cX5_claim 44 = .ok (.iconst 0, 1) := by decide +kernel
theorem dX5_claim_45 : decode cX5_claim 45 = .ok (.iload 4, 2) := by decide +kernel
theorem dX5_claim_47 : decode cX5_claim 47 = .ok (.ifCond .eq 27, 3) := by decide +kernel
theorem dX5_claim_50 : decode cX5_claim 50 = .ok (.aload_n 0, 1) := by decide +kernel
theorem dX5_claim_51 : decode cX5_claim 51 = .ok (.iload_n 1, 1) := by decide +kernel
theorem dX5_claim_52 : decode cX5_claim 52 = .ok (.iload_n 2, 1) := by decide +kernel
theorem dX5_claim_53 : decode cX5_claim 53 = .ok (.bipush 99, 2) := by decide +kernel
theorem dX5_claim_55 : decode cX5_claim 55 = .ok (.invokevirtual 174, 3) := by decide +kernel
theorem dX5_claim_58 : decode cX5_claim 58 = .ok (.ifCond .eq 12, 3) := by decide +kernel
theorem dX5_claim_61 : decode cX5_claim 61 = .ok (.aload_n 0, 1) := by decide +kernel
theorem dX5_claim_62 : decode cX5_claim 62 = .ok (.getfield 95, 3) := by decide +kernel
theorem dX5_claim_65 : decode cX5_claim 65 = .ok (.bipush 20, 2) := by decide +kernel
theorem dX5_claim_67 : decode cX5_claim 67 = .ok (.if_icmp .ne 7, 3) := by decide +kernel
theorem dX5_claim_70 : decode cX5_claim 70 = .ok (.iconst 1, 1) := by decide +kernel
theorem dX5_claim_71 : decode cX5_claim 71 = .ok (.goto 4, 3) := by decide +kernel
theorem dX5_claim_74 : decode cX5_claim 74 = .ok (.iconst 0, 1) := by decide +kernel
theorem dX5_claim_75 : decode cX5_claim 75 = .ok (.invokevirtual 81, 3) := by decide +kernel
theorem dX5_claim_78 : decode cX5_claim 78 = .ok (.ifCond .eq 5, 3) := by decide +kernel
theorem dX5_claim_81 : decode cX5_claim 81 = .ok (.iconst 0, 1) := by decide +kernel
theorem dX5_claim_82 : decode cX5_claim 82 = .ok (.ireturn, 1) := by decide +kernel
theorem dX5_claim_83 : decode cX5_claim 83 = .ok (.iload_n 3, 1) := by decide +kernel
theorem dX5_claim_84 : decode cX5_claim 84 = .ok (.aload_n 0, 1) := by decide +kernel
theorem dX5_claim_85 : decode cX5_claim 85 = .ok (.getfield 98, 3) := by decide +kernel
theorem dX5_claim_88 : decode cX5_claim 88 = .ok (.if_icmp .le 12, 3) := by decide +kernel
theorem dX5_claim_91 : decode cX5_claim 91 = .ok (.iload_n 3, 1) := by decide +kernel
theorem dX5_claim_92 : decode cX5_claim 92 = .ok (.aload_n 0, 1) := by decide +kernel
theorem dX5_claim_93 : decode cX5_claim 93 = .ok (.getfield 98, 3) := by decide +kernel
theorem dX5_claim_96 : decode cX5_claim 96 = .ok (.isub, 1) := by decide +kernel
theorem dX5_claim_97 : decode cX5_claim 97 = .ok (.goto 4, 3) := by decide +kernel
theorem dX5_claim_100 : decode cX5_claim 100 = .ok (.iconst 0, 1) := by decide +kernel
theorem dX5_claim_101 : decode cX5_claim 101 = .ok (.aload_n 0, 1) := by decide +kernel
theorem dX5_claim_102 : decode cX5_claim 102 = .ok (.getfield 55, 3) := by decide +kernel
theorem dX5_claim_105 : decode cX5_claim 105 = .ok (.invokestatic 159, 3) := by decide +kernel
theorem dX5_claim_108 : decode cX5_claim 108 = .ok (.aload_n 0, 1) := by decide +kernel
theorem dX5_claim_109 : decode cX5_claim 109 = .ok (.getfield 59, 3) := by decide +kernel
theorem dX5_claim_112 : decode cX5_claim 112 = .ok (.aload_n 0, 1) := by decide +kernel
theorem dX5_claim_113 : decode cX5_claim 113 = .ok (.iload_n 1, 1) := by decide +kernel
theorem dX5_claim_114 : decode cX5_claim 114 = .ok (.iconst 2, 1) := by decide +kernel
theorem dX5_claim_115 : decode cX5_claim 115 = .ok (.invokevirtual 184, 3) := by decide +kernel
theorem dX5_claim_118 : decode cX5_claim 118 = .ok (.isub, 1) := by decide +kernel
theorem dX5_claim_119 : decode cX5_claim 119 = .ok (.invokestatic 159, 3) := by decide +kernel
theorem dX5_claim_122 : decode cX5_claim 122 = .ok (.istore 5, 2) := by decide +kernel
theorem dX5_claim_124 : decode cX5_claim 124 = .ok (.iload 5, 2) := by decide +kernel
theorem dX5_claim_126 : decode cX5_claim 126 = .ok (.aload_n 0, 1) := by decide +kernel
theorem dX5_claim_127 : decode cX5_claim 127 = .ok (.getfield 92, 3) := by decide +kernel
theorem dX5_claim_130 : decode cX5_claim 130 = .ok (.imul, 1) := by decide +kernel
theorem dX5_claim_131 : decode cX5_claim 131 = .ok (.bipush 100, 2) := by decide +kernel
theorem dX5_claim_133 : decode cX5_claim 133 = .ok (.idiv, 1) := by decide +kernel
theorem dX5_claim_134 : decode cX5_claim 134 = .ok (.istore 6, 2) := by decide +kernel
theorem dX5_claim_136 : decode cX5_claim 136 = .ok (.iload 5, 2) := by decide +kernel
theorem dX5_claim_138 : decode cX5_claim 138 = .ok (.iload 6, 2) := by decide +kernel
theorem dX5_claim_140 : decode cX5_claim 140 = .ok (.isub, 1) := by decide +kernel
theorem dX5_claim_141 : decode cX5_claim 141 = .ok (.aload_n 0, 1) := by decide +kernel
theorem dX5_claim_142 : decode cX5_claim 142 = .ok (.getfield 62, 3) := by decide +kernel
theorem dX5_claim_145 : decode cX5_claim 145 = .ok (.if_icmp .le 16, 3) := by decide +kernel
theorem dX5_claim_148 : decode cX5_claim 148 = .ok (.iload 5, 2) := by decide +kernel
theorem dX5_claim_150 : decode cX5_claim 150 = .ok (.iload 6, 2) := by decide +kernel
theorem dX5_claim_152 : decode cX5_claim 152 = .ok (.isub, 1) := by decide +kernel
theorem dX5_claim_153 : decode cX5_claim 153 = .ok (.aload_n 0, 1) := by decide +kernel
theorem dX5_claim_154 : decode cX5_claim 154 = .ok (.getfield 62, 3) := by decide +kernel
theorem dX5_claim_157 : decode cX5_claim 157 = .ok (.isub, 1) := by decide +kernel
theorem dX5_claim_158 : decode cX5_claim 158 = .ok (.goto 4, 3) := by decide +kernel
theorem dX5_claim_161 : decode cX5_claim 161 = .ok (.iconst 0, 1) := by decide +kernel
theorem dX5_claim_162 : decode cX5_claim 162 = .ok (.istore 7, 2) := by decide +kernel
theorem dX5_claim_164 : decode cX5_claim 164 = .ok (.iload 7, 2) := by decide +kernel
theorem dX5_claim_166 : decode cX5_claim 166 = .ok (.aload_n 0, 1) := by decide +kernel
theorem dX5_claim_167 : decode cX5_claim 167 = .ok (.getfield 101, 3) := by decide +kernel
theorem dX5_claim_170 : decode cX5_claim 170 = .ok (.invokestatic 159, 3) := by decide +kernel
theorem dX5_claim_173 : decode cX5_claim 173 = .ok (.aload_n 0, 1) := by decide +kernel
theorem dX5_claim_174 : decode cX5_claim 174 = .ok (.getfield 101, 3) := by decide +kernel
theorem dX5_claim_177 : decode cX5_claim 177 = .ok (.iconst 1, 1) := by decide +kernel
theorem dX5_claim_178 : decode cX5_claim 178 = .ok (.aload_n 0, 1) := by decide +kernel
theorem dX5_claim_179 : decode cX5_claim 179 = .ok (.getfield 104, 3) := by decide +kernel
theorem dX5_claim_182 : decode cX5_claim 182 = .ok (.iadd, 1) := by decide +kernel
theorem dX5_claim_183 : decode cX5_claim 183 = .ok (.imul, 1) := by decide +kernel
theorem dX5_claim_184 : decode cX5_claim 184 = .ok (.aload_n 0, 1) := by decide +kernel
theorem dX5_claim_185 : decode cX5_claim 185 = .ok (.iconst (-1), 1) := by decide +kernel
theorem dX5_claim_186 : decode cX5_claim 186 = .ok (.iconst 4, 1) := by decide +kernel
theorem dX5_claim_187 : decode cX5_claim 187 = .ok (.invokevirtual 184, 3) := by decide +kernel
theorem dX5_claim_190 : decode cX5_claim 190 = .ok (.isub, 1) := by decide +kernel
theorem dX5_claim_191 : decode cX5_claim 191 = .ok (.invokestatic 159, 3) := by decide +kernel
theorem dX5_claim_194 : decode cX5_claim 194 = .ok (.istore 7, 2) := by decide +kernel
theorem dX5_claim_196 : decode cX5_claim 196 = .ok (.iload 7, 2) := by decide +kernel
theorem dX5_claim_198 : decode cX5_claim 198 = .ok (.aload_n 0, 1) := by decide +kernel
theorem dX5_claim_199 : decode cX5_claim 199 = .ok (.getfield 101, 3) := by decide +kernel
theorem dX5_claim_202 : decode cX5_claim 202 = .ok (.aload_n 0, 1) := by decide +kernel
theorem dX5_claim_203 : decode cX5_claim 203 = .ok (.getfield 104, 3) := by decide +kernel
theorem dX5_claim_206 : decode cX5_claim 206 = .ok (.imul, 1) := by decide +kernel
theorem dX5_claim_207 : decode cX5_claim 207 = .ok (.aload_n 0, 1) := by decide +kernel
theorem dX5_claim_208 : decode cX5_claim 208 = .ok (.iconst (-1), 1) := by decide +kernel
theorem dX5_claim_209 : decode cX5_claim 209 = .ok (.iconst 5, 1) := by decide +kernel
theorem dX5_claim_210 : decode cX5_claim 210 = .ok (.invokevirtual 184, 3) := by decide +kernel
theorem dX5_claim_213 : decode cX5_claim 213 = .ok (.isub, 1) := by decide +kernel
theorem dX5_claim_214 : decode cX5_claim 214 = .ok (.invokestatic 159, 3) := by decide +kernel
theorem dX5_claim_217 : decode cX5_claim 217 = .ok (.istore 8, 2) := by decide +kernel
theorem dX5_claim_219 : decode cX5_claim 219 = .ok (.aload_n 0, 1) := by decide +kernel
theorem dX5_claim_220 : decode cX5_claim 220 = .ok (.iconst 0, 1) := by decide +kernel
theorem dX5_claim_221 : decode cX5_claim 221 = .ok (.putfield 138, 3) := by decide +kernel
theorem dX5_claim_224 : decode cX5_claim 224 = .ok (.aload_n 0, 1) := by decide +kernel
theorem dX5_claim_225 : decode cX5_claim 225 = .ok (.iload 5, 2) := by decide +kernel
theorem dX5_claim_227 : decode cX5_claim 227 = .ok (.iconst 1, 1) := by decide +kernel
theorem dX5_claim_228 : decode cX5_claim 228 = .ok (.iconst 4, 1) := by decide +kernel
theorem dX5_claim_229 : decode cX5_claim 229 = .ok (.invokevirtual 147, 3) := by decide +kernel
theorem dX5_claim_232 : decode cX5_claim 232 = .ok (.aload_n 0, 1) := by decide +kernel
theorem dX5_claim_233 : decode cX5_claim 233 = .ok (.iload 6, 2) := by decide +kernel
theorem dX5_claim_235 : decode cX5_claim 235 = .ok (.iload 7, 2) := by decide +kernel
theorem dX5_claim_237 : decode cX5_claim 237 = .ok (.iadd, 1) := by decide +kernel
theorem dX5_claim_238 : decode cX5_claim 238 = .ok (.iconst 5, 1) := by decide +kernel
theorem dX5_claim_239 : decode cX5_claim 239 = .ok (.iconst 3, 1) := by decide +kernel
theorem dX5_claim_240 : decode cX5_claim 240 = .ok (.invokevirtual 147, 3) := by decide +kernel
theorem dX5_claim_243 : decode cX5_claim 243 = .ok (.aload_n 0, 1) := by decide +kernel
theorem dX5_claim_244 : decode cX5_claim 244 = .ok (.iload 8, 2) := by decide +kernel
theorem dX5_claim_246 : decode cX5_claim 246 = .ok (.aload_n 0, 1) := by decide +kernel
theorem dX5_claim_247 : decode cX5_claim 247 = .ok (.getfield 107, 3) := by decide +kernel
theorem dX5_claim_250 : decode cX5_claim 250 = .ok (.imul, 1) := by decide +kernel
theorem dX5_claim_251 : decode cX5_claim 251 = .ok (.bipush 100, 2) := by decide +kernel
theorem dX5_claim_253 : decode cX5_claim 253 = .ok (.idiv, 1) := by decide +kernel
theorem dX5_claim_254 : decode cX5_claim 254 = .ok (.iconst 3, 1) := by decide +kernel
theorem dX5_claim_255 : decode cX5_claim 255 = .ok (.iconst 2, 1) := by decide +kernel
theorem dX5_claim_256 : decode cX5_claim 256 = .ok (.invokevirtual 147, 3) := by decide +kernel
theorem dX5_claim_259 : decode cX5_claim 259 = .ok (.aload_n 0, 1) := by decide +kernel
theorem dX5_claim_260 : decode cX5_claim 260 = .ok (.invokevirtual 153, 3) := by decide +kernel
theorem dX5_claim_263 : decode cX5_claim 263 = .ok (.ifCond .ne 10, 3) := by decide +kernel
theorem dX5_claim_266 : decode cX5_claim 266 = .ok (.aload_n 0, 1) := by decide +kernel
theorem dX5_claim_267 : decode cX5_claim 267 = .ok (.iconst 4, 1) := by decide +kernel
theorem dX5_claim_268 : decode cX5_claim 268 = .ok (.putfield 68, 3) := by decide +kernel
theorem dX5_claim_271 : decode cX5_claim 271 = .ok (.iconst 0, 1) := by decide +kernel
theorem dX5_claim_272 : decode cX5_claim 272 = .ok (.ireturn, 1) := by decide +kernel
theorem dX5_claim_273 : decode cX5_claim 273 = .ok (.aload_n 0, 1) := by decide +kernel
theorem dX5_claim_274 : decode cX5_claim 274 = .ok (.getfield 65, 3) := by decide +kernel
theorem dX5_claim_277 : decode cX5_claim 277 = .ok (.bipush 6, 2) := by decide +kernel
theorem dX5_claim_279 : decode cX5_claim 279 = .ok (.aload_n 0, 1) := by decide +kernel
theorem dX5_claim_280 : decode cX5_claim 280 = .ok (.getfield 95, 3) := by decide +kernel
theorem dX5_claim_283 : decode cX5_claim 283 = .ok (.imul, 1) := by decide +kernel
theorem dX5_claim_284 : decode cX5_claim 284 = .ok (.iload_n 1, 1) := by decide +kernel
theorem dX5_claim_285 : decode cX5_claim 285 = .ok (.iastore, 1) := by decide +kernel
theorem dX5_claim_286 : decode cX5_claim 286 = .ok (.aload_n 0, 1) := by decide +kernel
theorem dX5_claim_287 : decode cX5_claim 287 = .ok (.getfield 65, 3) := by decide +kernel
theorem dX5_claim_290 : decode cX5_claim 290 = .ok (.bipush 6, 2) := by decide +kernel
theorem dX5_claim_292 : decode cX5_claim 292 = .ok (.aload_n 0, 1) := by decide +kernel
theorem dX5_claim_293 : decode cX5_claim 293 = .ok (.getfield 95, 3) := by decide +kernel
theorem dX5_claim_296 : decode cX5_claim 296 = .ok (.imul, 1) := by decide +kernel
theorem dX5_claim_297 : decode cX5_claim 297 = .ok (.iconst 1, 1) := by decide +kernel
theorem dX5_claim_298 : decode cX5_claim 298 = .ok (.iadd, 1) := by decide +kernel
theorem dX5_claim_299 : decode cX5_claim 299 = .ok (.iload_n 2, 1) := by decide +kernel
theorem dX5_claim_300 : decode cX5_claim 300 = .ok (.iastore, 1) := by decide +kernel
theorem dX5_claim_301 : decode cX5_claim 301 = .ok (.aload_n 0, 1) := by decide +kernel
theorem dX5_claim_302 : decode cX5_claim 302 = .ok (.getfield 65, 3) := by decide +kernel
theorem dX5_claim_305 : decode cX5_claim 305 = .ok (.bipush 6, 2) := by decide +kernel
theorem dX5_claim_307 : decode cX5_claim 307 = .ok (.aload_n 0, 1) := by decide +kernel
theorem dX5_claim_308 : decode cX5_claim 308 = .ok (.getfield 95, 3) := by decide +kernel
theorem dX5_claim_311 : decode cX5_claim 311 = .ok (.imul, 1) := by decide +kernel
theorem dX5_claim_312 : decode cX5_claim 312 = .ok (.iconst 2, 1) := by decide +kernel
theorem dX5_claim_313 : decode cX5_claim 313 = .ok (.iadd, 1) := by decide +kernel
theorem dX5_claim_314 : decode cX5_claim 314 = .ok (.iload 5, 2) := by decide +kernel
theorem dX5_claim_316 : decode cX5_claim 316 = .ok (.iastore, 1) := by decide +kernel
theorem dX5_claim_317 : decode cX5_claim 317 = .ok (.aload_n 0, 1) := by decide +kernel
theorem dX5_claim_318 : decode cX5_claim 318 = .ok (.getfield 65, 3) := by decide +kernel
theorem dX5_claim_321 : decode cX5_claim 321 = .ok (.bipush 6, 2) := by decide +kernel
theorem dX5_claim_323 : decode cX5_claim 323 = .ok (.aload_n 0, 1) := by decide +kernel
theorem dX5_claim_324 : decode cX5_claim 324 = .ok (.getfield 95, 3) := by decide +kernel
theorem dX5_claim_327 : decode cX5_claim 327 = .ok (.imul, 1) := by decide +kernel
theorem dX5_claim_328 : decode cX5_claim 328 = .ok (.iconst 3, 1) := by decide +kernel
theorem dX5_claim_329 : decode cX5_claim 329 = .ok (.iadd, 1) := by decide +kernel
theorem dX5_claim_330 : decode cX5_claim 330 = .ok (.iload 6, 2) := by decide +kernel
theorem dX5_claim_332 : decode cX5_claim 332 = .ok (.iastore, 1) := by decide +kernel
theorem dX5_claim_333 : decode cX5_claim 333 = .ok (.aload_n 0, 1) := by decide +kernel
theorem dX5_claim_334 : decode cX5_claim 334 = .ok (.getfield 65, 3) := by decide +kernel
theorem dX5_claim_337 : decode cX5_claim 337 = .ok (.bipush 6, 2) := by decide +kernel
theorem dX5_claim_339 : decode cX5_claim 339 = .ok (.aload_n 0, 1) := by decide +kernel
theorem dX5_claim_340 : decode cX5_claim 340 = .ok (.getfield 95, 3) := by decide +kernel
theorem dX5_claim_343 : decode cX5_claim 343 = .ok (.imul, 1) := by decide +kernel
theorem dX5_claim_344 : decode cX5_claim 344 = .ok (.iconst 4, 1) := by decide +kernel
theorem dX5_claim_345 : decode cX5_claim 345 = .ok (.iadd, 1) := by decide +kernel
theorem dX5_claim_346 : decode cX5_claim 346 = .ok (.iload 7, 2) := by decide +kernel
theorem dX5_claim_348 : decode cX5_claim 348 = .ok (.iastore, 1) := by decide +kernel
theorem dX5_claim_349 : decode cX5_claim 349 = .ok (.aload_n 0, 1) := by decide +kernel
theorem dX5_claim_350 : decode cX5_claim 350 = .ok (.getfield 65, 3) := by decide +kernel
theorem dX5_claim_353 : decode cX5_claim 353 = .ok (.bipush 6, 2) := by decide +kernel
theorem dX5_claim_355 : decode cX5_claim 355 = .ok (.aload_n 0, 1) := by decide +kernel
theorem dX5_claim_356 : decode cX5_claim 356 = .ok (.getfield 95, 3) := by decide +kernel
theorem dX5_claim_359 : decode cX5_claim 359 = .ok (.imul, 1) := by decide +kernel
theorem dX5_claim_360 : decode cX5_claim 360 = .ok (.iconst 5, 1) := by decide +kernel
theorem dX5_claim_361 : decode cX5_claim 361 = .ok (.iadd, 1) := by decide +kernel
theorem dX5_claim_362 : decode cX5_claim 362 = .ok (.iload 8, 2) := by decide +kernel
theorem dX5_claim_364 : decode cX5_claim 364 = .ok (.iastore, 1) := by decide +kernel
theorem dX5_claim_365 : decode cX5_claim 365 = .ok (.aload_n 0, 1) := by decide +kernel
theorem dX5_claim_366 : decode cX5_claim 366 = .ok (.dup, 1) := by decide +kernel
theorem dX5_claim_367 : decode cX5_claim 367 = .ok (.getfield 95, 3) := by decide +kernel
theorem dX5_claim_370 : decode cX5_claim 370 = .ok (.iconst 1, 1) := by decide +kernel
theorem dX5_claim_371 : decode cX5_claim 371 = .ok (.iadd, 1) := by decide +kernel
theorem dX5_claim_372 : decode cX5_claim 372 = .ok (.putfield 95, 3) := by decide +kernel
theorem dX5_claim_375 : decode cX5_claim 375 = .ok (.iload 5, 2) := by decide +kernel
theorem dX5_claim_377 : decode cX5_claim 377 = .ok (.ireturn, 1) := by decide +kernel
theorem dX5_count_0 : decode cX5_count 0 = .ok (.aload_n 0, 1) := by decide +kernel
theorem dX5_count_1 : decode cX5_count 1 = .ok (.iconst 0, 1) := by decide +kernel
theorem dX5_count_2 : decode cX5_count 2 = .ok (.putfield 68, 3) := by decide +kernel
theorem dX5_count_5 : decode cX5_count 5 = .ok (.iload_n 1, 1) := by decide +kernel
theorem dX5_count_6 : decode cX5_count 6 = .ok (.ifCond .ne 10, 3) := by decide +kernel
theorem dX5_count_9 : decode cX5_count 9 = .ok (.aload_n 0, 1) := by decide +kernel
theorem dX5_count_10 : decode cX5_count 10 = .ok (.getfield 75, 3) := by decide +kernel
theorem dX5_count_13 : decode cX5_count 13 = .ok (.goto 52, 3) := by decide +kernel
theorem dX5_count_16 : decode cX5_count 16 = .ok (.iload_n 1, 1) := by decide +kernel
theorem dX5_count_17 : decode cX5_count 17 = .ok (.iconst 1, 1) := by decide +kernel
theorem dX5_count_18 : decode cX5_count 18 = .ok (.if_icmp .ne 10, 3) := by decide +kernel
theorem dX5_count_21 : decode cX5_count 21 = .ok (.aload_n 0, 1) := by decide +kernel
theorem dX5_count_22 : decode cX5_count 22 = .ok (.getfield 110, 3) := by decide +kernel
theorem dX5_count_25 : decode cX5_count 25 = .ok (.goto 40, 3) := by decide +kernel
theorem dX5_count_28 : decode cX5_count 28 = .ok (.iload_n 1, 1) := by decide +kernel
theorem dX5_count_29 : decode cX5_count 29 = .ok (.iconst 2, 1) := by decide +kernel
theorem dX5_count_30 : decode cX5_count 30 = .ok (.if_icmp .ne 10, 3) := by decide +kernel
theorem dX5_count_33 : decode cX5_count 33 = .ok (.aload_n 0, 1) := by decide +kernel
theorem dX5_count_34 : decode cX5_count 34 = .ok (.getfield 95, 3) := by decide +kernel
theorem dX5_count_37 : decode cX5_count 37 = .ok (.goto 28, 3) := by decide +kernel
theorem dX5_count_40 : decode cX5_count 40 = .ok (.iload_n 1, 1) := by decide +kernel
theorem dX5_count_41 : decode cX5_count 41 = .ok (.iconst 3, 1) := by decide +kernel
theorem dX5_count_42 : decode cX5_count 42 = .ok (.if_icmp .ne 10, 3) := by decide +kernel
theorem dX5_count_45 : decode cX5_count 45 = .ok (.aload_n 0, 1) := by decide +kernel
theorem dX5_count_46 : decode cX5_count 46 = .ok (.getfield 141, 3) := by decide +kernel
theorem dX5_count_49 : decode cX5_count 49 = .ok (.goto 16, 3) := by decide +kernel
theorem dX5_count_52 : decode cX5_count 52 = .ok (.iload_n 1, 1) := by decide +kernel
theorem dX5_count_53 : decode cX5_count 53 = .ok (.iconst 4, 1) := by decide +kernel
theorem dX5_count_54 : decode cX5_count 54 = .ok (.if_icmp .ne 10, 3) := by decide +kernel
theorem dX5_count_57 : decode cX5_count 57 = .ok (.aload_n 0, 1) := by decide +kernel
theorem dX5_count_58 : decode cX5_count 58 = .ok (.getfield 78, 3) := by decide +kernel
theorem dX5_count_61 : decode cX5_count 61 = .ok (.goto 4, 3) := by decide +kernel
theorem dX5_count_64 : decode cX5_count 64 = .ok (.iconst (-1), 1) := by decide +kernel
theorem dX5_count_65 : decode cX5_count 65 = .ok (.ireturn, 1) := by decide +kernel
theorem dX5_fact_0 : decode cX5_fact 0 = .ok (.aload_n 0, 1) := by decide +kernel
theorem dX5_fact_1 : decode cX5_fact 1 = .ok (.aload_n 0, 1) := by decide +kernel
theorem dX5_fact_2 : decode cX5_fact 2 = .ok (.iload_n 1, 1) := by decide +kernel
theorem dX5_fact_3 : decode cX5_fact 3 = .ok (.invokevirtual 170, 3) := by decide +kernel
theorem dX5_fact_6 : decode cX5_fact 6 = .ok (.ifCond .eq 12, 3) := by decide +kernel
theorem dX5_fact_9 : decode cX5_fact 9 = .ok (.iload_n 2, 1) := by decide +kernel
theorem dX5_fact_10 : decode cX5_fact 10 = .ok (.iconst 0, 1) := by decide +kernel
theorem dX5_fact_11 : decode cX5_fact 11 = .ok (.iconst 4, 1) := by decide +kernel
theorem dX5_fact_12 : decode cX5_fact 12 = .ok (.invokestatic 71, 3) := by decide +kernel
theorem dX5_fact_15 : decode cX5_fact 15 = .ok (.ifCond .eq 7, 3) := by decide +kernel
theorem dX5_fact_18 : decode cX5_fact 18 = .ok (.iconst 1, 1) := by decide +kernel
theorem dX5_fact_19 : decode cX5_fact 19 = .ok (.goto 4, 3) := by decide +kernel
theorem dX5_fact_22 : decode cX5_fact 22 = .ok (.iconst 0, 1) := by decide +kernel
theorem dX5_fact_23 : decode cX5_fact 23 = .ok (.iconst 0, 1) := by decide +kernel
theorem dX5_fact_24 : decode cX5_fact 24 = .ok (.iconst 0, 1) := by decide +kernel
theorem dX5_fact_25 : decode cX5_fact 25 = .ok (.invokevirtual 81, 3) := by decide +kernel
theorem dX5_fact_28 : decode cX5_fact 28 = .ok (.ifCond .eq 5, 3) := by decide +kernel
theorem dX5_fact_31 : decode cX5_fact 31 = .ok (.iconst 0, 1) := by decide +kernel
theorem dX5_fact_32 : decode cX5_fact 32 = .ok (.ireturn, 1) := by decide +kernel
theorem dX5_fact_33 : decode cX5_fact 33 = .ok (.aload_n 0, 1) := by decide +kernel
theorem dX5_fact_34 : decode cX5_fact 34 = .ok (.iload_n 1, 1) := by decide +kernel
theorem dX5_fact_35 : decode cX5_fact 35 = .ok (.iload_n 3, 1) := by decide +kernel
theorem dX5_fact_36 : decode cX5_fact 36 = .ok (.invokevirtual 118, 3) := by decide +kernel
theorem dX5_fact_39 : decode cX5_fact 39 = .ok (.ifCond .eq 13, 3) := by decide +kernel
theorem dX5_fact_42 : decode cX5_fact 42 = .ok (.aload_n 0, 1) := by decide +kernel
theorem dX5_fact_43 : decode cX5_fact 43 = .ok (.iload_n 1, 1) := by decide +kernel
theorem dX5_fact_44 : decode cX5_fact 44 = .ok (.iload 4, 2) := by decide +kernel
theorem dX5_fact_46 : decode cX5_fact 46 = .ok (.invokevirtual 187, 3) := by decide +kernel
theorem dX5_fact_49 : decode cX5_fact 49 = .ok (.ifCond .ne 5, 3) := by decide +kernel
theorem dX5_fact_52 : decode cX5_fact 52 = .ok (.iconst (-1), 1) := by decide +kernel
theorem dX5_fact_53 : decode cX5_fact 53 = .ok (.ireturn, 1) := by decide +kernel
theorem dX5_fact_54 : decode cX5_fact 54 = .ok (.aload_n 0, 1) := by decide +kernel
theorem dX5_fact_55 : decode cX5_fact 55 = .ok (.iload_n 1, 1) := by decide +kernel
theorem dX5_fact_56 : decode cX5_fact 56 = .ok (.iload_n 3, 1) := by decide +kernel
theorem dX5_fact_57 : decode cX5_fact 57 = .ok (.iload 4, 2) := by decide +kernel
theorem dX5_fact_59 : decode cX5_fact 59 = .ok (.invokevirtual 134, 3) := by decide +kernel
theorem dX5_fact_62 : decode cX5_fact 62 = .ok (.istore 5, 2) := by decide +kernel
theorem dX5_fact_64 : decode cX5_fact 64 = .ok (.iload_n 2, 1) := by decide +kernel
theorem dX5_fact_65 : decode cX5_fact 65 = .ok (.iconst 3, 1) := by decide +kernel
theorem dX5_fact_66 : decode cX5_fact 66 = .ok (.if_icmp .ne 18, 3) := by decide +kernel
theorem dX5_fact_69 : decode cX5_fact 69 = .ok (.aload_n 0, 1) := by decide +kernel
theorem dX5_fact_70 : decode cX5_fact 70 = .ok (.invokevirtual 122, 3) := by decide +kernel
theorem dX5_fact_73 : decode cX5_fact 73 = .ok (.ifCond .eq 7, 3) := by decide +kernel
theorem dX5_fact_76 : decode cX5_fact 76 = .ok (.iconst 1, 1) := by decide +kernel
theorem dX5_fact_77 : decode cX5_fact 77 = .ok (.goto 22, 3) := by decide +kernel
theorem dX5_fact_80 : decode cX5_fact 80 = .ok (.iconst 0, 1) := by decide +kernel
theorem dX5_fact_81 : decode cX5_fact 81 = .ok (.goto 18, 3) := by decide +kernel
theorem dX5_fact_84 : decode cX5_fact 84 = .ok (.iload_n 2, 1) := by decide +kernel
theorem dX5_fact_85 : decode cX5_fact 85 = .ok (.iconst 4, 1) := by decide +kernel
theorem dX5_fact_86 : decode cX5_fact 86 = .ok (.if_icmp .ne 8, 3) := by decide +kernel
theorem dX5_fact_89 : decode cX5_fact 89 = .ok (.iload 5, 2) := by decide +kernel
theorem dX5_fact_91 : decode cX5_fact 91 = .ok (.goto 8, 3) := by decide +kernel
theorem dX5_fact_94 : decode cX5_fact 94 = .ok (.aload_n 0, 1) := by decide +kernel
theorem dX5_fact_95 : decode cX5_fact 95 = .ok (.iload_n 2, 1) := by decide +kernel
theorem dX5_fact_96 : decode cX5_fact 96 = .ok (.invokevirtual 126, 3) := by decide +kernel
theorem dX5_fact_99 : decode cX5_fact 99 = .ok (.ireturn, 1) := by decide +kernel
theorem dX5_written_0 : decode cX5_written 0 = .ok (.aload_n 0, 1) := by decide +kernel
theorem dX5_written_1 : decode cX5_written 1 = .ok (.aload_n 0, 1) := by decide +kernel
theorem dX5_written_2 : decode cX5_written 2 = .ok (.iload_n 1, 1) := by decide +kernel
theorem dX5_written_3 : decode cX5_written 3 = .ok (.invokevirtual 170, 3) := by decide +kernel
theorem dX5_written_6 : decode cX5_written 6 = .ok (.ifCond .ne 7, 3) := by decide +kernel
theorem dX5_written_9 : decode cX5_written 9 = .ok (.iconst 1, 1) := by decide +kernel
theorem dX5_written_10 : decode cX5_written 10 = .ok (.goto 4, 3) := by decide +kernel
theorem dX5_written_13 : decode cX5_written 13 = .ok (.iconst 0, 1) := by decide +kernel
theorem dX5_written_14 : decode cX5_written 14 = .ok (.iconst 0, 1) := by decide +kernel
theorem dX5_written_15 : decode cX5_written 15 = .ok (.iconst 0, 1) := by decide +kernel
theorem dX5_written_16 : decode cX5_written 16 = .ok (.invokevirtual 81, 3) := by decide +kernel
theorem dX5_written_19 : decode cX5_written 19 = .ok (.ifCond .eq 7, 3) := by decide +kernel
theorem dX5_written_22 : decode cX5_written 22 = .ok (.iconst 0, 1) := by decide +kernel
theorem dX5_written_23 : decode cX5_written 23 = .ok (.goto 12, 3) := by decide +kernel
theorem dX5_written_26 : decode cX5_written 26 = .ok (.aload_n 0, 1) := by decide +kernel
theorem dX5_written_27 : decode cX5_written 27 = .ok (.iload_n 1, 1) := by decide +kernel
theorem dX5_written_28 : decode cX5_written 28 = .ok (.sipush 1000, 3) := by decide +kernel
theorem dX5_written_31 : decode cX5_written 31 = .ok (.iload_n 2, 1) := by decide +kernel
theorem dX5_written_32 : decode cX5_written 32 = .ok (.invokevirtual 144, 3) := by decide +kernel
theorem dX5_written_35 : decode cX5_written 35 = .ok (.ireturn, 1) := by decide +kernel
theorem dX5_earned_0 : decode cX5_earned 0 = .ok (.aload_n 0, 1) := by decide +kernel
theorem dX5_earned_1 : decode cX5_earned 1 = .ok (.aload_n 0, 1) := by decide +kernel
theorem dX5_earned_2 : decode cX5_earned 2 = .ok (.iload_n 1, 1) := by decide +kernel
theorem dX5_earned_3 : decode cX5_earned 3 = .ok (.invokevirtual 170, 3) := by decide +kernel
theorem dX5_earned_6 : decode cX5_earned 6 = .ok (.ifCond .ne 7, 3) := by decide +kernel
theorem dX5_earned_9 : decode cX5_earned 9 = .ok (.iconst 1, 1) := by decide +kernel
theorem dX5_earned_10 : decode cX5_earned 10 = .ok (.goto 4, 3) := by decide +kernel
theorem dX5_earned_13 : decode cX5_earned 13 = .ok (.iconst 0, 1) := by decide +kernel
theorem dX5_earned_14 : decode cX5_earned 14 = .ok (.iconst 0, 1) := by decide +kernel
theorem dX5_earned_15 : decode cX5_earned 15 = .ok (.iconst 0, 1) := by decide +kernel
theorem dX5_earned_16 : decode cX5_earned 16 = .ok (.invokevirtual 81, 3) := by decide +kernel
theorem dX5_earned_19 : decode cX5_earned 19 = .ok (.ifCond .eq 7, 3) := by decide +kernel
theorem dX5_earned_22 : decode cX5_earned 22 = .ok (.iconst 0, 1) := by decide +kernel
theorem dX5_earned_23 : decode cX5_earned 23 = .ok (.goto 10, 3) := by decide +kernel
theorem dX5_earned_26 : decode cX5_earned 26 = .ok (.aload_n 0, 1) := by decide +kernel
theorem dX5_earned_27 : decode cX5_earned 27 = .ok (.iload_n 1, 1) := by decide +kernel
theorem dX5_earned_28 : decode cX5_earned 28 = .ok (.iload_n 2, 1) := by decide +kernel
theorem dX5_earned_29 : decode cX5_earned 29 = .ok (.iload_n 3, 1) := by decide +kernel
theorem dX5_earned_30 : decode cX5_earned 30 = .ok (.invokevirtual 144, 3) := by decide +kernel
theorem dX5_earned_33 : decode cX5_earned 33 = .ok (.ireturn, 1) := by decide +kernel
theorem dX5_settled_0 : decode cX5_settled 0 = .ok (.aload_n 0, 1) := by decide +kernel
theorem dX5_settled_1 : decode cX5_settled 1 = .ok (.iload_n 1, 1) := by decide +kernel
theorem dX5_settled_2 : decode cX5_settled 2 = .ok (.iconst 0, 1) := by decide +kernel
theorem dX5_settled_3 : decode cX5_settled 3 = .ok (.aload_n 0, 1) := by decide +kernel
theorem dX5_settled_4 : decode cX5_settled 4 = .ok (.getfield 95, 3) := by decide +kernel
theorem dX5_settled_7 : decode cX5_settled 7 = .ok (.iconst 1, 1) := by decide +kernel
theorem dX5_settled_8 : decode cX5_settled 8 = .ok (.isub, 1) := by decide +kernel
theorem dX5_settled_9 : decode cX5_settled 9 = .ok (.invokestatic 71, 3) := by decide +kernel
theorem dX5_settled_12 : decode cX5_settled 12 = .ok (.ifCond .ne 12, 3) := by decide +kernel
theorem dX5_settled_15 : decode cX5_settled 15 = .ok (.iload_n 2, 1) := by decide +kernel
theorem dX5_settled_16 : decode cX5_settled 16 = .ok (.iconst 0, 1) := by decide +kernel
theorem dX5_settled_17 : decode cX5_settled 17 = .ok (.iconst 5, 1) := by decide +kernel
theorem dX5_settled_18 : decode cX5_settled 18 = .ok (.invokestatic 71, 3) := by decide +kernel
theorem dX5_settled_21 : decode cX5_settled 21 = .ok (.ifCond .eq 7, 3) := by decide +kernel
theorem dX5_settled_24 : decode cX5_settled 24 = .ok (.iconst 1, 1) := by decide +kernel
theorem dX5_settled_25 : decode cX5_settled 25 = .ok (.goto 4, 3) := by decide +kernel
theorem dX5_settled_28 : decode cX5_settled 28 = .ok (.iconst 0, 1) := by decide +kernel
theorem dX5_settled_29 : decode cX5_settled 29 = .ok (.iconst 0, 1) := by decide +kernel
theorem dX5_settled_30 : decode cX5_settled 30 = .ok (.iconst 0, 1) := by decide +kernel
theorem dX5_settled_31 : decode cX5_settled 31 = .ok (.invokevirtual 81, 3) := by decide +kernel
theorem dX5_settled_34 : decode cX5_settled 34 = .ok (.ifCond .eq 7, 3) := by decide +kernel
theorem dX5_settled_37 : decode cX5_settled 37 = .ok (.iconst 0, 1) := by decide +kernel
theorem dX5_settled_38 : decode cX5_settled 38 = .ok (.goto 14, 3) := by decide +kernel
theorem dX5_settled_41 : decode cX5_settled 41 = .ok (.aload_n 0, 1) := by decide +kernel
theorem dX5_settled_42 : decode cX5_settled 42 = .ok (.getfield 65, 3) := by decide +kernel
theorem dX5_settled_45 : decode cX5_settled 45 = .ok (.bipush 6, 2) := by decide +kernel
theorem dX5_settled_47 : decode cX5_settled 47 = .ok (.iload_n 1, 1) := by decide +kernel
theorem dX5_settled_48 : decode cX5_settled 48 = .ok (.imul, 1) := by decide +kernel
theorem dX5_settled_49 : decode cX5_settled 49 = .ok (.iload_n 2, 1) := by decide +kernel
theorem dX5_settled_50 : decode cX5_settled 50 = .ok (.iadd, 1) := by decide +kernel
theorem dX5_settled_51 : decode cX5_settled 51 = .ok (.iaload, 1) := by decide +kernel
theorem dX5_settled_52 : decode cX5_settled 52 = .ok (.ireturn, 1) := by decide +kernel
theorem dX5_posting_0 : decode cX5_posting 0 = .ok (.aload_n 0, 1) := by decide +kernel
theorem dX5_posting_1 : decode cX5_posting 1 = .ok (.iload_n 1, 1) := by decide +kernel
theorem dX5_posting_2 : decode cX5_posting 2 = .ok (.iconst 0, 1) := by decide +kernel
theorem dX5_posting_3 : decode cX5_posting 3 = .ok (.aload_n 0, 1) := by decide +kernel
theorem dX5_posting_4 : decode cX5_posting 4 = .ok (.getfield 141, 3) := by decide +kernel
theorem dX5_posting_7 : decode cX5_posting 7 = .ok (.iconst 1, 1) := by decide +kernel
theorem dX5_posting_8 : decode cX5_posting 8 = .ok (.isub, 1) := by decide +kernel
theorem dX5_posting_9 : decode cX5_posting 9 = .ok (.invokestatic 71, 3) := by decide +kernel
theorem dX5_posting_12 : decode cX5_posting 12 = .ok (.ifCond .ne 12, 3) := by decide +kernel
theorem dX5_posting_15 : decode cX5_posting 15 = .ok (.iload_n 2, 1) := by decide +kernel
theorem dX5_posting_16 : decode cX5_posting 16 = .ok (.iconst 0, 1) := by decide +kernel
theorem dX5_posting_17 : decode cX5_posting 17 = .ok (.iconst 2, 1) := by decide +kernel
theorem dX5_posting_18 : decode cX5_posting 18 = .ok (.invokestatic 71, 3) := by decide +kernel
theorem dX5_posting_21 : decode cX5_posting 21 = .ok (.ifCond .eq 7, 3) := by decide +kernel
theorem dX5_posting_24 : decode cX5_posting 24 = .ok (.iconst 1, 1) := by decide +kernel
theorem dX5_posting_25 : decode cX5_posting 25 = .ok (.goto 4, 3) := by decide +kernel
theorem dX5_posting_28 : decode cX5_posting 28 = .ok (.iconst 0, 1) := by decide +kernel
theorem dX5_posting_29 : decode cX5_posting 29 = .ok (.iconst 0, 1) := by decide +kernel
theorem dX5_posting_30 : decode cX5_posting 30 = .ok (.iconst 0, 1) := by decide +kernel
theorem dX5_posting_31 : decode cX5_posting 31 = .ok (.invokevirtual 81, 3) := by decide +kernel
theorem dX5_posting_34 : decode cX5_posting 34 = .ok (.ifCond .eq 5, 3) := by decide +kernel
theorem dX5_posting_37 : decode cX5_posting 37 = .ok (.iconst 0, 1) := by decide +kernel
theorem dX5_posting_38 : decode cX5_posting 38 = .ok (.ireturn, 1) := by decide +kernel
theorem dX5_posting_39 : decode cX5_posting 39 = .ok (.iload_n 2, 1) := by decide +kernel
theorem dX5_posting_40 : decode cX5_posting 40 = .ok (.ifCond .ne 12, 3) := by decide +kernel
theorem dX5_posting_43 : decode cX5_posting 43 = .ok (.aload_n 0, 1) := by decide +kernel
theorem dX5_posting_44 : decode cX5_posting 44 = .ok (.getfield 37, 3) := by decide +kernel
theorem dX5_posting_47 : decode cX5_posting 47 = .ok (.iload_n 1, 1) := by decide +kernel
theorem dX5_posting_48 : decode cX5_posting 48 = .ok (.iaload, 1) := by decide +kernel
theorem dX5_posting_49 : decode cX5_posting 49 = .ok (.goto 23, 3) := by decide +kernel
theorem dX5_posting_52 : decode cX5_posting 52 = .ok (.iload_n 2, 1) := by decide +kernel
theorem dX5_posting_53 : decode cX5_posting 53 = .ok (.iconst 1, 1) := by decide +kernel
theorem dX5_posting_54 : decode cX5_posting 54 = .ok (.if_icmp .ne 12, 3) := by decide +kernel
theorem dX5_posting_57 : decode cX5_posting 57 = .ok (.aload_n 0, 1) := by decide +kernel
theorem dX5_posting_58 : decode cX5_posting 58 = .ok (.getfield 40, 3) := by decide +kernel
theorem dX5_posting_61 : decode cX5_posting 61 = .ok (.iload_n 1, 1) := by decide +kernel
theorem dX5_posting_62 : decode cX5_posting 62 = .ok (.iaload, 1) := by decide +kernel
theorem dX5_posting_63 : decode cX5_posting 63 = .ok (.goto 9, 3) := by decide +kernel
theorem dX5_posting_66 : decode cX5_posting 66 = .ok (.aload_n 0, 1) := by decide +kernel
theorem dX5_posting_67 : decode cX5_posting 67 = .ok (.getfield 43, 3) := by decide +kernel
theorem dX5_posting_70 : decode cX5_posting 70 = .ok (.iload_n 1, 1) := by decide +kernel
theorem dX5_posting_71 : decode cX5_posting 71 = .ok (.iaload, 1) := by decide +kernel
theorem dX5_posting_72 : decode cX5_posting 72 = .ok (.ireturn, 1) := by decide +kernel
theorem dX5_balance_0 : decode cX5_balance 0 = .ok (.aload_n 0, 1) := by decide +kernel
theorem dX5_balance_1 : decode cX5_balance 1 = .ok (.iload_n 1, 1) := by decide +kernel
theorem dX5_balance_2 : decode cX5_balance 2 = .ok (.iconst 0, 1) := by decide +kernel
theorem dX5_balance_3 : decode cX5_balance 3 = .ok (.bipush 6, 2) := by decide +kernel
theorem dX5_balance_5 : decode cX5_balance 5 = .ok (.invokestatic 71, 3) := by decide +kernel
theorem dX5_balance_8 : decode cX5_balance 8 = .ok (.iconst 0, 1) := by decide +kernel
theorem dX5_balance_9 : decode cX5_balance 9 = .ok (.iconst 0, 1) := by decide +kernel
theorem dX5_balance_10 : decode cX5_balance 10 = .ok (.invokevirtual 81, 3) := by decide +kernel
theorem dX5_balance_13 : decode cX5_balance 13 = .ok (.ifCond .eq 5, 3) := by decide +kernel
theorem dX5_balance_16 : decode cX5_balance 16 = .ok (.iconst 0, 1) := by decide +kernel
theorem dX5_balance_17 : decode cX5_balance 17 = .ok (.ireturn, 1) := by decide +kernel
theorem dX5_balance_18 : decode cX5_balance 18 = .ok (.iconst 0, 1) := by decide +kernel
theorem dX5_balance_19 : decode cX5_balance 19 = .ok (.istore_n 2, 1) := by decide +kernel
theorem dX5_balance_20 : decode cX5_balance 20 = .ok (.iconst 0, 1) := by decide +kernel
theorem dX5_balance_21 : decode cX5_balance 21 = .ok (.istore_n 3, 1) := by decide +kernel
theorem dX5_balance_22 : decode cX5_balance 22 = .ok (.iload_n 3, 1) := by decide +kernel
theorem dX5_balance_23 : decode cX5_balance 23 = .ok (.aload_n 0, 1) := by decide +kernel
theorem dX5_balance_24 : decode cX5_balance 24 = .ok (.getfield 141, 3) := by decide +kernel
theorem dX5_balance_27 : decode cX5_balance 27 = .ok (.if_icmp .ge 53, 3) := by decide +kernel
theorem dX5_balance_30 : decode cX5_balance 30 = .ok (.iload_n 2, 1) := by decide +kernel
theorem dX5_balance_31 : decode cX5_balance 31 = .ok (.aload_n 0, 1) := by decide +kernel
theorem dX5_balance_32 : decode cX5_balance 32 = .ok (.getfield 40, 3) := by decide +kernel
theorem dX5_balance_35 : decode cX5_balance 35 = .ok (.iload_n 3, 1) := by decide +kernel
theorem dX5_balance_36 : decode cX5_balance 36 = .ok (.iaload, 1) := by decide +kernel
theorem dX5_balance_37 : decode cX5_balance 37 = .ok (.iload_n 1, 1) := by decide +kernel
theorem dX5_balance_38 : decode cX5_balance 38 = .ok (.if_icmp .ne 12, 3) := by decide +kernel
theorem dX5_balance_41 : decode cX5_balance 41 = .ok (.aload_n 0, 1) := by decide +kernel
theorem dX5_balance_42 : decode cX5_balance 42 = .ok (.getfield 43, 3) := by decide +kernel
theorem dX5_balance_45 : decode cX5_balance 45 = .ok (.iload_n 3, 1) := by decide +kernel
theorem dX5_balance_46 : decode cX5_balance 46 = .ok (.iaload, 1) := by decide +kernel
theorem dX5_balance_47 : decode cX5_balance 47 = .ok (.goto 4, 3) := by decide +kernel
theorem dX5_balance_50 : decode cX5_balance 50 = .ok (.iconst 0, 1) := by decide +kernel
theorem dX5_balance_51 : decode cX5_balance 51 = .ok (.aload_n 0, 1) := by decide +kernel
theorem dX5_balance_52 : decode cX5_balance 52 = .ok (.getfield 37, 3) := by decide +kernel
theorem dX5_balance_55 : decode cX5_balance 55 = .ok (.iload_n 3, 1) := by decide +kernel
theorem dX5_balance_56 : decode cX5_balance 56 = .ok (.iaload, 1) := by decide +kernel
theorem dX5_balance_57 : decode cX5_balance 57 = .ok (.iload_n 1, 1) := by decide +kernel
theorem dX5_balance_58 : decode cX5_balance 58 = .ok (.if_icmp .ne 12, 3) := by decide +kernel
theorem dX5_balance_61 : decode cX5_balance 61 = .ok (.aload_n 0, 1) := by decide +kernel
theorem dX5_balance_62 : decode cX5_balance 62 = .ok (.getfield 43, 3) := by decide +kernel
theorem dX5_balance_65 : decode cX5_balance 65 = .ok (.iload_n 3, 1) := by decide +kernel
theorem dX5_balance_66 : decode cX5_balance 66 = .ok (.iaload, 1) := by decide +kernel
theorem dX5_balance_67 : decode cX5_balance 67 = .ok (.goto 4, 3) := by decide +kernel
theorem dX5_balance_70 : decode cX5_balance 70 = .ok (.iconst 0, 1) := by decide +kernel
theorem dX5_balance_71 : decode cX5_balance 71 = .ok (.isub, 1) := by decide +kernel
theorem dX5_balance_72 : decode cX5_balance 72 = .ok (.iadd, 1) := by decide +kernel
theorem dX5_balance_73 : decode cX5_balance 73 = .ok (.istore_n 2, 1) := by decide +kernel
theorem dX5_balance_74 : decode cX5_balance 74 = .ok (.iinc 3 1, 3) := by decide +kernel
theorem dX5_balance_77 : decode cX5_balance 77 = .ok (.goto (-55), 3) := by decide +kernel
theorem dX5_balance_80 : decode cX5_balance 80 = .ok (.iload_n 2, 1) := by decide +kernel
theorem dX5_balance_81 : decode cX5_balance 81 = .ok (.ireturn, 1) := by decide +kernel
