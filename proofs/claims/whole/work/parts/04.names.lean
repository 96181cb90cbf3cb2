theorem dX8_init_0 : decode cX8_init 0 = .ok (.aload_n 0, 1) := by decide +kernel
theorem dX8_init_1 : decode cX8_init 1 = .ok (.invokespecial 1, 3) := by decide +kernel
theorem dX8_init_4 : decode cX8_init 4 = .ok (.aload_n 0, 1) := by decide +kernel
theorem dX8_init_5 : decode cX8_init 5 = .ok (.iconst 4, 1) := by decide +kernel
theorem dX8_init_6 : decode cX8_init 6 = .ok (.newarray .int, 2) := by decide +kernel
theorem dX8_init_8 : decode cX8_init 8 = .ok (.dup, 1) := by decide +kernel
theorem dX8_init_9 : decode cX8_init 9 = .ok (.iconst 0, 1) := by decide +kernel
theorem dX8_init_10 : decode cX8_init 10 = .ok (.bipush (-9), 2) := by decide +kernel
theorem dX8_init_12 : decode cX8_init 12 = .ok (.iastore, 1) := by decide +kernel
theorem dX8_init_13 : decode cX8_init 13 = .ok (.dup, 1) := by decide +kernel
theorem dX8_init_14 : decode cX8_init 14 = .ok (.iconst 1, 1) := by decide +kernel
theorem dX8_init_15 : decode cX8_init 15 = .ok (.bipush (-9), 2) := by decide +kernel
theorem dX8_init_17 : decode cX8_init 17 = .ok (.iastore, 1) := by decide +kernel
theorem dX8_init_18 : decode cX8_init 18 = .ok (.dup, 1) := by decide +kernel
theorem dX8_init_19 : decode cX8_init 19 = .ok (.iconst 2, 1) := by decide +kernel
theorem dX8_init_20 : decode cX8_init 20 = .ok (.bipush (-9), 2) := by decide +kernel
theorem dX8_init_22 : decode cX8_init 22 = .ok (.iastore, 1) := by decide +kernel
theorem dX8_init_23 : decode cX8_init 23 = .ok (.dup, 1) := by decide +kernel
theorem dX8_init_24 : decode cX8_init 24 = .ok (.iconst 3, 1) := by decide +kernel
theorem dX8_init_25 : decode cX8_init 25 = .ok (.bipush (-9), 2) := by decide +kernel
theorem dX8_init_27 : decode cX8_init 27 = .ok (.iastore, 1) := by decide +kernel
theorem dX8_init_28 : decode cX8_init 28 = .ok (.putfield 9, 3) := by decide +kernel
theorem dX8_init_31 : decode cX8_init 31 = .ok (.aload_n 0, 1) := by decide +kernel
theorem dX8_init_32 : decode cX8_init 32 = .ok (.iconst 4, 1) := by decide +kernel
theorem dX8_init_33 : decode cX8_init 33 = .ok (.newarray .int, 2) := by decide +kernel
theorem dX8_init_35 : decode cX8_init 35 = .ok (.putfield 13, 3) := by decide +kernel
theorem dX8_init_38 : decode cX8_init 38 = .ok (.aload_n 0, 1) := by decide +kernel
theorem dX8_init_39 : decode cX8_init 39 = .ok (.sipush 160, 3) := by decide +kernel
theorem dX8_init_42 : decode cX8_init 42 = .ok (.newarray .int, 2) := by decide +kernel
theorem dX8_init_44 : decode cX8_init 44 = .ok (.putfield 16, 3) := by decide +kernel
theorem dX8_init_47 : decode cX8_init 47 = .ok (.aload_n 0, 1) := by decide +kernel
theorem dX8_init_48 : decode cX8_init 48 = .ok (.bipush 24, 2) := by decide +kernel
theorem dX8_init_50 : decode cX8_init 50 = .ok (.newarray .int, 2) := by decide +kernel
theorem dX8_init_52 : decode cX8_init 52 = .ok (.putfield 19, 3) := by decide +kernel
theorem dX8_init_55 : decode cX8_init 55 = .ok (.aload_n 0, 1) := by decide +kernel
theorem dX8_init_56 : decode cX8_init 56 = .ok (.bipush 24, 2) := by decide +kernel
theorem dX8_init_58 : decode cX8_init 58 = .ok (.newarray .int, 2) := by decide +kernel
theorem dX8_init_60 : decode cX8_init 60 = .ok (.putfield 22, 3) := by decide +kernel
theorem dX8_init_63 : decode cX8_init 63 = .ok (.aload_n 0, 1) := by decide +kernel
theorem dX8_init_64 : decode cX8_init 64 = .ok (.bipush 24, 2) := by decide +kernel
theorem dX8_init_66 : decode cX8_init 66 = .ok (.newarray .int, 2) := by decide +kernel
theorem dX8_init_68 : decode cX8_init 68 = .ok (.putfield 25, 3) := by decide +kernel
theorem dX8_init_71 : decode cX8_init 71 = .ok (.aload_n 0, 1) := by decide +kernel
theorem dX8_init_72 : decode cX8_init 72 = .ok (.bipush 24, 2) := by decide +kernel
theorem dX8_init_74 : decode cX8_init 74 = .ok (.newarray .int, 2) := by decide +kernel
theorem dX8_init_76 : decode cX8_init 76 = .ok (.putfield 28, 3) := by decide +kernel
theorem dX8_init_79 : decode cX8_init 79 = .ok (.aload_n 0, 1) := by decide +kernel
theorem dX8_init_80 : decode cX8_init 80 = .ok (.bipush 24, 2) := by decide +kernel
theorem dX8_init_82 : decode cX8_init 82 = .ok (.newarray .boolean, 2) := by decide +kernel
theorem dX8_init_84 : decode cX8_init 84 = .ok (.putfield 31, 3) := by decide +kernel
theorem dX8_init_87 : decode cX8_init 87 = .ok (.aload_n 0, 1) := by decide +kernel
theorem dX8_init_88 : decode cX8_init 88 = .ok (.bipush 24, 2) := by decide +kernel
theorem dX8_init_90 : decode cX8_init 90 = .ok (.newarray .int, 2) := by decide +kernel
theorem dX8_init_92 : decode cX8_init 92 = .ok (.putfield 35, 3) := by decide +kernel
theorem dX8_init_95 : decode cX8_init 95 = .ok (.aload_n 0, 1) := by decide +kernel
theorem dX8_init_96 : decode cX8_init 96 = .ok (.bipush 6, 2) := by decide +kernel
theorem dX8_init_98 : decode cX8_init 98 = .ok (.newarray .int, 2) := by decide +kernel
theorem dX8_init_100 : decode cX8_init 100 = .ok (.putfield 38, 3) := by decide +kernel
theorem dX8_init_103 : decode cX8_init 103 = .ok (.aload_n 0, 1) := by decide +kernel
theorem dX8_init_104 : decode cX8_init 104 = .ok (.bipush 18, 2) := by decide +kernel
theorem dX8_init_106 : decode cX8_init 106 = .ok (.newarray .int, 2) := by decide +kernel
theorem dX8_init_108 : decode cX8_init 108 = .ok (.putfield 41, 3) := by decide +kernel
theorem dX8_init_111 : decode cX8_init 111 = .ok (.aload_n 0, 1) := by decide +kernel
theorem dX8_init_112 : decode cX8_init 112 = .ok (.bipush 12, 2) := by decide +kernel
theorem dX8_init_114 : decode cX8_init 114 = .ok (.newarray .int, 2) := by decide +kernel
theorem dX8_init_116 : decode cX8_init 116 = .ok (.putfield 44, 3) := by decide +kernel
theorem dX8_init_119 : decode cX8_init 119 = .ok (.aload_n 0, 1) := by decide +kernel
theorem dX8_init_120 : decode cX8_init 120 = .ok (.iconst 4, 1) := by decide +kernel
theorem dX8_init_121 : decode cX8_init 121 = .ok (.newarray .int, 2) := by decide +kernel
theorem dX8_init_123 : decode cX8_init 123 = .ok (.putfield 47, 3) := by decide +kernel
theorem dX8_init_126 : decode cX8_init 126 = .ok (.aload_n 0, 1) := by decide +kernel
theorem dX8_init_127 : decode cX8_init 127 = .ok (.iconst 3, 1) := by decide +kernel
theorem dX8_init_128 : decode cX8_init 128 = .ok (.newarray .int, 2) := by decide +kernel
theorem dX8_init_130 : decode cX8_init 130 = .ok (.putfield 50, 3) := by decide +kernel
theorem dX8_init_133 : decode cX8_init 133 = .ok (.aload_n 0, 1) := by decide +kernel
theorem dX8_init_134 : decode cX8_init 134 = .ok (.iconst 4, 1) := by decide +kernel
theorem dX8_init_135 : decode cX8_init 135 = .ok (.newarray .int, 2) := by decide +kernel
theorem dX8_init_137 : decode cX8_init 137 = .ok (.putfield 53, 3) := by decide +kernel
theorem dX8_init_140 : decode cX8_init 140 = .ok (.aload_n 0, 1) := by decide +kernel
theorem dX8_init_141 : decode cX8_init 141 = .ok (.bipush 24, 2) := by decide +kernel
theorem dX8_init_143 : decode cX8_init 143 = .ok (.newarray .int, 2) := by decide +kernel
theorem dX8_init_145 : decode cX8_init 145 = .ok (.putfield 56, 3) := by decide +kernel
theorem dX8_init_148 : decode cX8_init 148 = .ok (.aload_n 0, 1) := by decide +kernel
theorem dX8_init_149 : decode cX8_init 149 = .ok (.bipush 24, 2) := by decide +kernel
theorem dX8_init_151 : decode cX8_init 151 = .ok (.newarray .int, 2) := by decide +kernel
theorem dX8_init_153 : decode cX8_init 153 = .ok (.putfield 59, 3) := by decide +kernel
theorem dX8_init_156 : decode cX8_init 156 = .ok (.aload_n 0, 1) := by decide +kernel
theorem dX8_init_157 : decode cX8_init 157 = .ok (.bipush 24, 2) := by decide +kernel
theorem dX8_init_159 : decode cX8_init 159 = .ok (.newarray .int, 2) := by decide +kernel
theorem dX8_init_161 : decode cX8_init 161 = .ok (.putfield 62, 3) := by decide +kernel
theorem dX8_init_164 : decode cX8_init 164 = .ok (.return_, 1) := by decide +kernel
theorem dX8_fails_0 : decode cX8_fails 0 = .ok (.aload_n 0, 1) := by decide +kernel
theorem dX8_fails_1 : decode cX8_fails 1 = .ok (.iload_n 1, 1) := by decide +kernel
theorem dX8_fails_2 : decode cX8_fails 2 = .ok (.putfield 65, 3) := by decide +kernel
theorem dX8_fails_5 : decode cX8_fails 5 = .ok (.bipush (-10), 2) := by decide +kernel
theorem dX8_fails_7 : decode cX8_fails 7 = .ok (.iload_n 1, 1) := by decide +kernel
theorem dX8_fails_8 : decode cX8_fails 8 = .ok (.isub, 1) := by decide +kernel
theorem dX8_fails_9 : decode cX8_fails 9 = .ok (.ireturn, 1) := by decide +kernel
theorem dX8_lost_0 : decode cX8_lost 0 = .ok (.aload_n 0, 1) := by decide +kernel
theorem dX8_lost_1 : decode cX8_lost 1 = .ok (.iload_n 1, 1) := by decide +kernel
theorem dX8_lost_2 : decode cX8_lost 2 = .ok (.putfield 65, 3) := by decide +kernel
theorem dX8_lost_5 : decode cX8_lost 5 = .ok (.ldc2_w 69, 3) := by decide +kernel
theorem dX8_lost_8 : decode cX8_lost 8 = .ok (.lreturn, 1) := by decide +kernel
theorem dX8_within_0 : decode cX8_within 0 = .ok (.iload_n 0, 1) := by decide +kernel
theorem dX8_within_1 : decode cX8_within 1 = .ok (.iload_n 1, 1) := by decide +kernel
theorem dX8_within_2 : decode cX8_within 2 = .ok (.if_icmp .lt 12, 3) := by decide +kernel
theorem dX8_within_5 : decode cX8_within 5 = .ok (.iload_n 0, 1) := by decide +kernel
theorem dX8_within_6 : decode cX8_within 6 = .ok (.iload_n 2, 1) := by decide +kernel
theorem dX8_within_7 : decode cX8_within 7 = .ok (.if_icmp .gt 7, 3) := by decide +kernel
theorem dX8_within_10 : decode cX8_within 10 = .ok (.iconst 1, 1) := by decide +kernel
theorem dX8_within_11 : decode cX8_within 11 = .ok (.goto 4, 3) := by decide +kernel
theorem dX8_within_14 : decode cX8_within 14 = .ok (.iconst 0, 1) := by decide +kernel
theorem dX8_within_15 : decode cX8_within 15 = .ok (.ireturn, 1) := by decide +kernel
set_option maxRecDepth 20000 in
theorem ggX8_isSheet_X8_within : GoodIn wsX8_isSheet wsX8_within := goodIn_r _ [4] (by decide +kernel) (by decide +kernel)
set_option maxRecDepth 20000 in
theorem gX8_isSheet_X8_within : GoodIn wsX8_isSheet (va_wsS RX8 71 yX8_within wsX8_within) := goodIn_app (goodIn_of _ (by decide +kernel)) ggX8_isSheet_X8_within
theorem dX8_isSheet_0 : decode cX8_isSheet 0 = .ok (.iload_n 0, 1) := by decide +kernel
theorem dX8_isSheet_1 : decode cX8_isSheet 1 = .ok (.iconst 0, 1) := by decide +kernel
theorem dX8_isSheet_2 : decode cX8_isSheet 2 = .ok (.iconst 3, 1) := by decide +kernel
theorem dX8_isSheet_3 : decode cX8_isSheet 3 = .ok (.invokestatic 71, 3) := by decide +kernel
theorem dX8_isSheet_6 : decode cX8_isSheet 6 = .ok (.ireturn, 1) := by decide +kernel
set_option maxRecDepth 20000 in
theorem ggX8_isSort_X8_within : GoodIn wsX8_isSort wsX8_within := goodIn_r _ [4] (by decide +kernel) (by decide +kernel)
set_option maxRecDepth 20000 in
theorem gX8_isSort_X8_within : GoodIn wsX8_isSort (va_wsS RX8 71 yX8_within wsX8_within) := goodIn_app (goodIn_of _ (by decide +kernel)) ggX8_isSort_X8_within
theorem dX8_isSort_0 : decode cX8_isSort 0 = .ok (.iload_n 0, 1) := by decide +kernel
theorem dX8_isSort_1 : decode cX8_isSort 1 = .ok (.iconst 0, 1) := by decide +kernel
theorem dX8_isSort_2 : decode cX8_isSort 2 = .ok (.iconst 2, 1) := by decide +kernel
theorem dX8_isSort_3 : decode cX8_isSort 3 = .ok (.invokestatic 71, 3) := by decide +kernel
theorem dX8_isSort_6 : decode cX8_isSort 6 = .ok (.ireturn, 1) := by decide +kernel
theorem dX8_against_0 : decode cX8_against 0 = .ok (.aload_n 0, 1) := by decide +kernel
theorem dX8_against_1 : decode cX8_against 1 = .ok (.getfield 9, 3) := by decide +kernel
theorem dX8_against_4 : decode cX8_against 4 = .ok (.iload_n 1, 1) := by decide +kernel
theorem dX8_against_5 : decode cX8_against 5 = .ok (.iaload, 1) := by decide +kernel
theorem dX8_against_6 : decode cX8_against 6 = .ok (.bipush (-9), 2) := by decide +kernel
theorem dX8_against_8 : decode cX8_against 8 = .ok (.if_icmp .eq 15, 3) := by decide +kernel
theorem dX8_against_11 : decode cX8_against 11 = .ok (.aload_n 0, 1) := by decide +kernel
theorem dX8_against_12 : decode cX8_against 12 = .ok (.getfield 9, 3) := by decide +kernel
theorem dX8_against_15 : decode cX8_against 15 = .ok (.iload_n 1, 1) := by decide +kernel
theorem dX8_against_16 : decode cX8_against 16 = .ok (.iaload, 1) := by decide +kernel
theorem dX8_against_17 : decode cX8_against 17 = .ok (.iload_n 2, 1) := by decide +kernel
theorem dX8_against_18 : decode cX8_against 18 = .ok (.if_icmp .eq 5, 3) := by decide +kernel
theorem dX8_against_21 : decode cX8_against 21 = .ok (.iconst 2, 1) := by decide +kernel
theorem dX8_against_22 : decode cX8_against 22 = .ok (.ireturn, 1) := by decide +kernel
theorem dX8_against_23 : decode cX8_against 23 = .ok (.aload_n 0, 1) := by decide +kernel
theorem dX8_against_24 : decode cX8_against 24 = .ok (.getfield 9, 3) := by decide +kernel
theorem dX8_against_27 : decode cX8_against 27 = .ok (.iload_n 1, 1) := by decide +kernel
theorem dX8_against_28 : decode cX8_against 28 = .ok (.iaload, 1) := by decide +kernel
theorem dX8_against_29 : decode cX8_against 29 = .ok (.bipush (-9), 2) := by decide +kernel
theorem dX8_against_31 : decode cX8_against 31 = .ok (.if_icmp .ne 5, 3) := by decide +kernel
theorem dX8_against_34 : decode cX8_against 34 = .ok (.iconst 1, 1) := by decide +kernel
theorem dX8_against_35 : decode cX8_against 35 = .ok (.ireturn, 1) := by decide +kernel
theorem dX8_against_36 : decode cX8_against 36 = .ok (.iload 4, 2) := by decide +kernel
theorem dX8_against_38 : decode cX8_against 38 = .ok (.ifCond .ge 5, 3) := by decide +kernel
theorem dX8_against_41 : decode cX8_against 41 = .ok (.iconst 4, 1) := by decide +kernel
theorem dX8_against_42 : decode cX8_against 42 = .ok (.ireturn, 1) := by decide +kernel
theorem dX8_against_43 : decode cX8_against 43 = .ok (.iload_n 3, 1) := by decide +kernel
theorem dX8_against_44 : decode cX8_against 44 = .ok (.ifCond .lt 26, 3) := by decide +kernel
theorem dX8_against_47 : decode cX8_against 47 = .ok (.iload_n 3, 1) := by decide +kernel
theorem dX8_against_48 : decode cX8_against 48 = .ok (.aload_n 0, 1) := by decide +kernel
theorem dX8_against_49 : decode cX8_against 49 = .ok (.getfield 13, 3) := by decide +kernel
theorem dX8_against_52 : decode cX8_against 52 = .ok (.iload_n 1, 1) := by decide +kernel
theorem dX8_against_53 : decode cX8_against 53 = .ok (.iaload, 1) := by decide +kernel
theorem dX8_against_54 : decode cX8_against 54 = .ok (.if_icmp .gt 16, 3) := by decide +kernel
theorem dX8_against_57 : decode cX8_against 57 = .ok (.iload 4, 2) := by decide +kernel
theorem dX8_against_59 : decode cX8_against 59 = .ok (.aload_n 0, 1) := by decide +kernel
theorem dX8_against_60 : decode cX8_against 60 = .ok (.getfield 13, 3) := by decide +kernel
theorem dX8_against_63 : decode cX8_against 63 = .ok (.iload_n 1, 1) := by decide +kernel
theorem dX8_against_64 : decode cX8_against 64 = .ok (.iaload, 1) := by decide +kernel
theorem dX8_against_65 : decode cX8_against 65 = .ok (.iload_n 3, 1) := by decide +kernel
theorem dX8_against_66 : decode cX8_against 66 = .ok (.isub, 1) := by decide +kernel
theorem dX8_against_67 : decode cX8_against 67 = .ok (.if_icmp .le 7, 3) := by decide +kernel
theorem dX8_against_70 : decode cX8_against 70 = .ok (.iconst 3, 1) := by decide +kernel
theorem dX8_against_71 : decode cX8_against 71 = .ok (.goto 4, 3) := by decide +kernel
theorem dX8_against_74 : decode cX8_against 74 = .ok (.iconst 0, 1) := by decide +kernel
theorem dX8_against_75 : decode cX8_against 75 = .ok (.ireturn, 1) := by decide +kernel
theorem dX8_all_0 : decode cX8_all 0 = .ok (.aload_n 0, 1) := by decide +kernel
theorem dX8_all_1 : decode cX8_all 1 = .ok (.getfield 75, 3) := by decide +kernel
theorem dX8_all_4 : decode cX8_all 4 = .ok (.aload_n 0, 1) := by decide +kernel
theorem dX8_all_5 : decode cX8_all 5 = .ok (.getfield 78, 3) := by decide +kernel
theorem dX8_all_8 : decode cX8_all 8 = .ok (.imul, 1) := by decide +kernel
theorem dX8_all_9 : decode cX8_all 9 = .ok (.ireturn, 1) := by decide +kernel
set_option maxRecDepth 20000 in
theorem ggX8_isCell_X8_all : GoodIn wsX8_isCell wsX8_all := goodIn_r _ [5, 6, 7, 8, 9, 10, 11, 12, 13, 14, 15, 16, 17, 18, 19, 20, 21, 22, 23, 24, 25, 26, 27, 28, 29, 30, 31, 32, 33, 34, 35, 36, 37, 38, 39, 40, 41, 42] (by decide +kernel) (by decide +kernel)
set_option maxRecDepth 20000 in
theorem gX8_isCell_X8_all : GoodIn wsX8_isCell (wsV RX8 81 RX8 yX8_all wsX8_all) := goodIn_app (goodIn_of _ (by decide +kernel)) ggX8_isCell_X8_all
theorem dX8_isCell_0 : decode cX8_isCell 0 = .ok (.iload_n 1, 1) := by decide +kernel
theorem dX8_isCell_1 : decode cX8_isCell 1 = .ok (.ifCond .lt 15, 3) := by decide +kernel
theorem dX8_isCell_4 : decode cX8_isCell 4 = .ok (.iload_n 1, 1) := by decide +kernel
theorem dX8_isCell_5 : decode cX8_isCell 5 = .ok (.aload_n 0, 1) := by decide +kernel
theorem dX8_isCell_6 : decode cX8_isCell 6 = .ok (.invokevirtual 81, 3) := by decide +kernel
theorem dX8_isCell_9 : decode cX8_isCell 9 = .ok (.if_icmp .ge 7, 3) := by decide +kernel
theorem dX8_isCell_12 : decode cX8_isCell 12 = .ok (.iconst 1, 1) := by decide +kernel
theorem dX8_isCell_13 : decode cX8_isCell 13 = .ok (.goto 4, 3) := by decide +kernel
theorem dX8_isCell_16 : decode cX8_isCell 16 = .ok (.iconst 0, 1) := by decide +kernel
theorem dX8_isCell_17 : decode cX8_isCell 17 = .ok (.ireturn, 1) := by decide +kernel
set_option maxRecDepth 20000 in
theorem ggX8_digit_X8_within : GoodIn wsX8_digit wsX8_within := goodIn_r _ [6] (by decide +kernel) (by decide +kernel)
set_option maxRecDepth 20000 in
theorem gX8_digit_X8_within : GoodIn wsX8_digit (va_wsS RX8 71 yX8_within wsX8_within) := goodIn_app (goodIn_of _ (by decide +kernel)) ggX8_digit_X8_within
theorem dX8_digit_0 : decode cX8_digit 0 = .ok (.aload_n 0, 1) := by decide +kernel
theorem dX8_digit_1 : decode cX8_digit 1 = .ok (.getfield 85, 3) := by decide +kernel
theorem dX8_digit_4 : decode cX8_digit 4 = .ok (.iload_n 1, 1) := by decide +kernel
theorem dX8_digit_5 : decode cX8_digit 5 = .ok (.if_icmp .ge 26, 3) := by decide +kernel
theorem dX8_digit_8 : decode cX8_digit 8 = .ok (.aload_n 0, 1) := by decide +kernel
theorem dX8_digit_9 : decode cX8_digit 9 = .ok (.getfield 16, 3) := by decide +kernel
theorem dX8_digit_12 : decode cX8_digit 12 = .ok (.aload_n 0, 1) := by decide +kernel
theorem dX8_digit_13 : decode cX8_digit 13 = .ok (.getfield 85, 3) := by decide +kernel
theorem dX8_digit_16 : decode cX8_digit 16 = .ok (.iaload, 1) := by decide +kernel
theorem dX8_digit_17 : decode cX8_digit 17 = .ok (.bipush 48, 2) := by decide +kernel
theorem dX8_digit_19 : decode cX8_digit 19 = .ok (.iload_n 2, 1) := by decide +kernel
theorem dX8_digit_20 : decode cX8_digit 20 = .ok (.iadd, 1) := by decide +kernel
theorem dX8_digit_21 : decode cX8_digit 21 = .ok (.bipush 48, 2) := by decide +kernel
theorem dX8_digit_23 : decode cX8_digit 23 = .ok (.iload_n 3, 1) := by decide +kernel
theorem dX8_digit_24 : decode cX8_digit 24 = .ok (.iadd, 1) := by decide +kernel
theorem dX8_digit_25 : decode cX8_digit 25 = .ok (.invokestatic 71, 3) := by decide +kernel
theorem dX8_digit_28 : decode cX8_digit 28 = .ok (.ifCond .ne 6, 3) := by decide +kernel
theorem dX8_digit_31 : decode cX8_digit 31 = .ok (.bipush (-9), 2) := by decide +kernel
theorem dX8_digit_33 : decode cX8_digit 33 = .ok (.ireturn, 1) := by decide +kernel
theorem dX8_digit_34 : decode cX8_digit 34 = .ok (.aload_n 0, 1) := by decide +kernel
theorem dX8_digit_35 : decode cX8_digit 35 = .ok (.dup, 1) := by decide +kernel
theorem dX8_digit_36 : decode cX8_digit 36 = .ok (.getfield 85, 3) := by decide +kernel
theorem dX8_digit_39 : decode cX8_digit 39 = .ok (.iconst 1, 1) := by decide +kernel
theorem dX8_digit_40 : decode cX8_digit 40 = .ok (.iadd, 1) := by decide +kernel
theorem dX8_digit_41 : decode cX8_digit 41 = .ok (.putfield 85, 3) := by decide +kernel
theorem dX8_digit_44 : decode cX8_digit 44 = .ok (.aload_n 0, 1) := by decide +kernel
theorem dX8_digit_45 : decode cX8_digit 45 = .ok (.getfield 16, 3) := by decide +kernel
theorem dX8_digit_48 : decode cX8_digit 48 = .ok (.aload_n 0, 1) := by decide +kernel
theorem dX8_digit_49 : decode cX8_digit 49 = .ok (.getfield 85, 3) := by decide +kernel
theorem dX8_digit_52 : decode cX8_digit 52 = .ok (.iconst 1, 1) := by decide +kernel
theorem dX8_digit_53 : decode cX8_digit 53 = .ok (.isub, 1) := by decide +kernel
theorem dX8_digit_54 : decode cX8_digit 54 = .ok (.iaload, 1) := by decide +kernel
theorem dX8_digit_55 : decode cX8_digit 55 = .ok (.bipush 48, 2) := by decide +kernel
theorem dX8_digit_57 : decode cX8_digit 57 = .ok (.isub, 1) := by decide +kernel
theorem dX8_digit_58 : decode cX8_digit 58 = .ok (.ireturn, 1) := by decide +kernel
set_option maxRecDepth 20000 in
theorem ggX8_wall_X8_isSheet : GoodIn wsX8_wall wsX8_isSheet := goodIn_r _ [21, 22, 23, 20, 24] (by decide +kernel) (by decide +kernel)
set_option maxRecDepth 20000 in
theorem gX8_wall_X8_isSheet : GoodIn wsX8_wall (va_wsS RX8 88 yX8_isSheet wsX8_isSheet) := goodIn_app (goodIn_of _ (by decide +kernel)) ggX8_wall_X8_isSheet
set_option maxRecDepth 20000 in
theorem ggX8_wall_X8_isSort : GoodIn wsX8_wall wsX8_isSort := goodIn_r _ [27, 22, 23, 20, 24] (by decide +kernel) (by decide +kernel)
set_option maxRecDepth 20000 in
theorem gX8_wall_X8_isSort : GoodIn wsX8_wall (va_wsS RX8 92 yX8_isSort wsX8_isSort) := goodIn_app (goodIn_of _ (by decide +kernel)) ggX8_wall_X8_isSort
set_option maxRecDepth 20000 in
theorem ggX8_wall_X8_against : GoodIn wsX8_wall wsX8_against := goodIn_r _ [31, 32, 33, 57, 58, 59, 60, 61, 62, 63, 64, 65, 66, 67, 68, 69, 70, 71, 72, 73, 74, 75, 76, 77, 78, 79, 80, 81, 82, 83, 84, 85, 86, 87, 88, 89, 90, 91] (by decide +kernel) (by decide +kernel)
set_option maxRecDepth 20000 in
theorem gX8_wall_X8_against : GoodIn wsX8_wall (wsV RX8 95 RX8 yX8_against wsX8_against) := goodIn_app (goodIn_of _ (by decide +kernel)) ggX8_wall_X8_against
set_option maxRecDepth 20000 in
theorem ggX8_wall_X8_fails : GoodIn wsX8_wall wsX8_fails := goodIn_r _ [37, 1, 57, 58, 59, 60, 61, 62, 63, 64, 65, 66, 67, 68, 69, 70, 71, 72, 73, 74, 75, 76, 77, 78, 79, 80, 81, 82, 83, 84, 85, 86, 87, 88, 89, 90, 91] (by decide +kernel) (by decide +kernel)
set_option maxRecDepth 20000 in
theorem gX8_wall_X8_fails : GoodIn wsX8_wall (wsV RX8 99 RX8 yX8_fails wsX8_fails) := goodIn_app (goodIn_of _ (by decide +kernel)) ggX8_wall_X8_fails
set_option maxRecDepth 20000 in
theorem ggX8_wall_X8_readWall : GoodIn wsX8_wall wsX8_readWall := goodIn_r _ [41, 2, 42, 3, 5, 8, 43, 44, 45, 20, 46, 22, 23, 24, 57, 58, 59, 60, 61, 62, 63, 64, 65, 66, 67, 68, 69, 70, 71, 72, 73, 74, 75, 76, 77, 78, 79, 80, 81, 82, 83, 84, 85, 86, 87, 88, 89, 90, 91] (by decide +kernel) (by decide +kernel)
set_option maxRecDepth 20000 in
theorem gX8_wall_X8_readWall : GoodIn wsX8_wall (wsV RX8 103 RX8 yX8_readWall wsX8_readWall) := goodIn_app (goodIn_of _ (by decide +kernel)) ggX8_wall_X8_readWall
set_option maxRecDepth 20000 in
theorem ggX8_wall_X8_all : GoodIn wsX8_wall wsX8_all := goodIn_r _ [50, 4, 6, 57, 58, 59, 60, 61, 62, 63, 64, 65, 66, 67, 68, 69, 70, 71, 72, 73, 74, 75, 76, 77, 78, 79, 80, 81, 82, 83, 84, 85, 86, 87, 88, 89, 90, 91] (by decide +kernel) (by decide +kernel)
set_option maxRecDepth 20000 in
theorem gX8_wall_X8_all : GoodIn wsX8_wall (wsV RX8 81 RX8 yX8_all wsX8_all) := goodIn_app (goodIn_of _ (by decide +kernel)) ggX8_wall_X8_all
set_option maxRecDepth 20000 in
theorem ggX8_wall_X8_addCoat : GoodIn wsX8_wall wsX8_addCoat := goodIn_r _ [54, 55, 17, 56, 57, 58, 59, 60, 61, 62, 63, 64, 65, 66, 67, 68, 69, 70, 71, 72, 73, 74, 75, 76, 77, 78, 79, 80, 81, 82, 83, 84, 85, 86, 87, 88, 89, 90, 91] (by decide +kernel) (by decide +kernel)
set_option maxRecDepth 20000 in
theorem gX8_wall_X8_addCoat : GoodIn wsX8_wall (wsV RX8 127 RX8 yX8_addCoat wsX8_addCoat) := goodIn_app (goodIn_of _ (by decide +kernel)) ggX8_wall_X8_addCoat
theorem dX8_wall_0 : decode cX8_wall 0 = .ok (.aload_n 0, 1) := by decide +kernel
theorem dX8_wall_1 : decode cX8_wall 1 = .ok (.iconst 0, 1) := by decide +kernel
theorem dX8_wall_2 : decode cX8_wall 2 = .ok (.putfield 65, 3) := by decide +kernel
theorem dX8_wall_5 : decode cX8_wall 5 = .ok (.iload_n 1, 1) := by decide +kernel
theorem dX8_wall_6 : decode cX8_wall 6 = .ok (.invokestatic 88, 3) := by decide +kernel
theorem dX8_wall_9 : decode cX8_wall 9 = .ok (.ifCond .ne 5, 3) := by decide +kernel
theorem dX8_wall_12 : decode cX8_wall 12 = .ok (.iconst (-1), 1) := by decide +kernel
theorem dX8_wall_13 : decode cX8_wall 13 = .ok (.ireturn, 1) := by decide +kernel
theorem dX8_wall_14 : decode cX8_wall 14 = .ok (.iload_n 2, 1) := by decide +kernel
theorem dX8_wall_15 : decode cX8_wall 15 = .ok (.invokestatic 92, 3) := by decide +kernel
theorem dX8_wall_18 : decode cX8_wall 18 = .ok (.ifCond .ne 6, 3) := by decide +kernel
theorem dX8_wall_21 : decode cX8_wall 21 = .ok (.bipush (-2), 2) := by decide +kernel
theorem dX8_wall_23 : decode cX8_wall 23 = .ok (.ireturn, 1) := by decide +kernel
theorem dX8_wall_24 : decode cX8_wall 24 = .ok (.aload_n 0, 1) := by decide +kernel
theorem dX8_wall_25 : decode cX8_wall 25 = .ok (.iload_n 1, 1) := by decide +kernel
theorem dX8_wall_26 : decode cX8_wall 26 = .ok (.iload_n 2, 1) := by decide +kernel
theorem dX8_wall_27 : decode cX8_wall 27 = .ok (.iload_n 3, 1) := by decide +kernel
theorem dX8_wall_28 : decode cX8_wall 28 = .ok (.iload 4, 2) := by decide +kernel
theorem dX8_wall_30 : decode cX8_wall 30 = .ok (.invokevirtual 95, 3) := by decide +kernel
theorem dX8_wall_33 : decode cX8_wall 33 = .ok (.istore 5, 2) := by decide +kernel
theorem dX8_wall_35 : decode cX8_wall 35 = .ok (.iload 5, 2) := by decide +kernel
theorem dX8_wall_37 : decode cX8_wall 37 = .ok (.ifCond .eq 10, 3) := by decide +kernel
theorem dX8_wall_40 : decode cX8_wall 40 = .ok (.aload_n 0, 1) := by decide +kernel
theorem dX8_wall_41 : decode cX8_wall 41 = .ok (.iload 5, 2) := by decide +kernel
theorem dX8_wall_43 : decode cX8_wall 43 = .ok (.invokevirtual 99, 3) := by decide +kernel
theorem dX8_wall_46 : decode cX8_wall 46 = .ok (.ireturn, 1) := by decide +kernel
theorem dX8_wall_47 : decode cX8_wall 47 = .ok (.bipush 40, 2) := by decide +kernel
theorem dX8_wall_49 : decode cX8_wall 49 = .ok (.iload_n 1, 1) := by decide +kernel
theorem dX8_wall_50 : decode cX8_wall 50 = .ok (.imul, 1) := by decide +kernel
theorem dX8_wall_51 : decode cX8_wall 51 = .ok (.iload_n 3, 1) := by decide +kernel
theorem dX8_wall_52 : decode cX8_wall 52 = .ok (.iadd, 1) := by decide +kernel
theorem dX8_wall_53 : decode cX8_wall 53 = .ok (.istore 6, 2) := by decide +kernel
theorem dX8_wall_55 : decode cX8_wall 55 = .ok (.aload_n 0, 1) := by decide +kernel
theorem dX8_wall_56 : decode cX8_wall 56 = .ok (.iload 6, 2) := by decide +kernel
theorem dX8_wall_58 : decode cX8_wall 58 = .ok (.putfield 85, 3) := by decide +kernel
theorem dX8_wall_61 : decode cX8_wall 61 = .ok (.aload_n 0, 1) := by decide +kernel
theorem dX8_wall_62 : decode cX8_wall 62 = .ok (.iload 6, 2) := by decide +kernel
theorem dX8_wall_64 : decode cX8_wall 64 = .ok (.iload 4, 2) := by decide +kernel
theorem dX8_wall_66 : decode cX8_wall 66 = .ok (.iadd, 1) := by decide +kernel
theorem dX8_wall_67 : decode cX8_wall 67 = .ok (.invokevirtual 103, 3) := by decide +kernel
theorem dX8_wall_70 : decode cX8_wall 70 = .ok (.ifCond .ne 14, 3) := by decide +kernel
theorem dX8_wall_73 : decode cX8_wall 73 = .ok (.bipush (-100), 2) := by decide +kernel
theorem dX8_wall_75 : decode cX8_wall 75 = .ok (.aload_n 0, 1) := by decide +kernel
theorem dX8_wall_76 : decode cX8_wall 76 = .ok (.getfield 85, 3) := by decide +kernel
theorem dX8_wall_79 : decode cX8_wall 79 = .ok (.iload 6, 2) := by decide +kernel
theorem dX8_wall_81 : decode cX8_wall 81 = .ok (.isub, 1) := by decide +kernel
theorem dX8_wall_82 : decode cX8_wall 82 = .ok (.isub, 1) := by decide +kernel
theorem dX8_wall_83 : decode cX8_wall 83 = .ok (.ireturn, 1) := by decide +kernel
theorem dX8_wall_84 : decode cX8_wall 84 = .ok (.aload_n 0, 1) := by decide +kernel
theorem dX8_wall_85 : decode cX8_wall 85 = .ok (.aload_n 0, 1) := by decide +kernel
theorem dX8_wall_86 : decode cX8_wall 86 = .ok (.getfield 106, 3) := by decide +kernel
theorem dX8_wall_89 : decode cX8_wall 89 = .ok (.putfield 75, 3) := by decide +kernel
theorem dX8_wall_92 : decode cX8_wall 92 = .ok (.aload_n 0, 1) := by decide +kernel
theorem dX8_wall_93 : decode cX8_wall 93 = .ok (.aload_n 0, 1) := by decide +kernel
theorem dX8_wall_94 : decode cX8_wall 94 = .ok (.getfield 109, 3) := by decide +kernel
theorem dX8_wall_97 : decode cX8_wall 97 = .ok (.putfield 78, 3) := by decide +kernel
theorem dX8_wall_100 : decode cX8_wall 100 = .ok (.iconst 0, 1) := by decide +kernel
theorem dX8_wall_101 : decode cX8_wall 101 = .ok (.istore 7, 2) := by decide +kernel
theorem dX8_wall_103 : decode cX8_wall 103 = .ok (.iload 7, 2) := by decide +kernel
theorem dX8_wall_105 : decode cX8_wall 105 = .ok (.aload_n 0, 1) := by decide +kernel
theorem dX8_wall_106 : decode cX8_wall 106 = .ok (.invokevirtual 81, 3) := by decide +kernel
theorem dX8_wall_109 : decode cX8_wall 109 = .ok (.if_icmp .ge 55, 3) := by decide +kernel
theorem dX8_wall_112 : decode cX8_wall 112 = .ok (.aload_n 0, 1) := by decide +kernel
theorem dX8_wall_113 : decode cX8_wall 113 = .ok (.getfield 19, 3) := by decide +kernel
theorem dX8_wall_116 : decode cX8_wall 116 = .ok (.iload 7, 2) := by decide +kernel
theorem dX8_wall_118 : decode cX8_wall 118 = .ok (.aload_n 0, 1) := by decide +kernel
theorem dX8_wall_119 : decode cX8_wall 119 = .ok (.getfield 35, 3) := by decide +kernel
theorem dX8_wall_122 : decode cX8_wall 122 = .ok (.iload 7, 2) := by decide +kernel
theorem dX8_wall_124 : decode cX8_wall 124 = .ok (.iaload, 1) := by decide +kernel
theorem dX8_wall_125 : decode cX8_wall 125 = .ok (.iastore, 1) := by decide +kernel
theorem dX8_wall_126 : decode cX8_wall 126 = .ok (.aload_n 0, 1) := by decide +kernel
theorem dX8_wall_127 : decode cX8_wall 127 = .ok (.getfield 22, 3) := by decide +kernel
theorem dX8_wall_130 : decode cX8_wall 130 = .ok (.iload 7, 2) := by decide +kernel
theorem dX8_wall_132 : decode cX8_wall 132 = .ok (.iconst 0, 1) := by decide +kernel
theorem dX8_wall_133 : decode cX8_wall 133 = .ok (.iastore, 1) := by decide +kernel
theorem dX8_wall_134 : decode cX8_wall 134 = .ok (.aload_n 0, 1) := by decide +kernel
theorem dX8_wall_135 : decode cX8_wall 135 = .ok (.getfield 25, 3) := by decide +kernel
theorem dX8_wall_138 : decode cX8_wall 138 = .ok (.iload 7, 2) := by decide +kernel
theorem dX8_wall_140 : decode cX8_wall 140 = .ok (.iconst 0, 1) := by decide +kernel
theorem dX8_wall_141 : decode cX8_wall 141 = .ok (.iastore, 1) := by decide +kernel
theorem dX8_wall_142 : decode cX8_wall 142 = .ok (.aload_n 0, 1) := by decide +kernel
theorem dX8_wall_143 : decode cX8_wall 143 = .ok (.getfield 28, 3) := by decide +kernel
theorem dX8_wall_146 : decode cX8_wall 146 = .ok (.iload 7, 2) := by decide +kernel
theorem dX8_wall_148 : decode cX8_wall 148 = .ok (.iconst 0, 1) := by decide +kernel
theorem dX8_wall_149 : decode cX8_wall 149 = .ok (.iastore, 1) := by decide +kernel
theorem dX8_wall_150 : decode cX8_wall 150 = .ok (.aload_n 0, 1) := by decide +kernel
theorem dX8_wall_151 : decode cX8_wall 151 = .ok (.getfield 31, 3) := by decide +kernel
theorem dX8_wall_154 : decode cX8_wall 154 = .ok (.iload 7, 2) := by decide +kernel
theorem dX8_wall_156 : decode cX8_wall 156 = .ok (.iconst 0, 1) := by decide +kernel
theorem dX8_wall_157 : decode cX8_wall 157 = .ok (.bastore, 1) := by decide +kernel
theorem dX8_wall_158 : decode cX8_wall 158 = .ok (.iinc 7 1, 3) := by decide +kernel
theorem dX8_wall_161 : decode cX8_wall 161 = .ok (.goto (-58), 3) := by decide +kernel
theorem dX8_wall_164 : decode cX8_wall 164 = .ok (.aload_n 0, 1) := by decide +kernel
theorem dX8_wall_165 : decode cX8_wall 165 = .ok (.iconst 0, 1) := by decide +kernel
theorem dX8_wall_166 : decode cX8_wall 166 = .ok (.putfield 112, 3) := by decide +kernel
theorem dX8_wall_169 : decode cX8_wall 169 = .ok (.aload_n 0, 1) := by decide +kernel
theorem dX8_wall_170 : decode cX8_wall 170 = .ok (.iconst 0, 1) := by decide +kernel
theorem dX8_wall_171 : decode cX8_wall 171 = .ok (.putfield 115, 3) := by decide +kernel
theorem dX8_wall_174 : decode cX8_wall 174 = .ok (.aload_n 0, 1) := by decide +kernel
theorem dX8_wall_175 : decode cX8_wall 175 = .ok (.bipush 10, 2) := by decide +kernel
theorem dX8_wall_177 : decode cX8_wall 177 = .ok (.putfield 118, 3) := by decide +kernel
theorem dX8_wall_180 : decode cX8_wall 180 = .ok (.aload_n 0, 1) := by decide +kernel
theorem dX8_wall_181 : decode cX8_wall 181 = .ok (.iconst 0, 1) := by decide +kernel
theorem dX8_wall_182 : decode cX8_wall 182 = .ok (.putfield 121, 3) := by decide +kernel
theorem dX8_wall_185 : decode cX8_wall 185 = .ok (.aload_n 0, 1) := by decide +kernel
theorem dX8_wall_186 : decode cX8_wall 186 = .ok (.iconst 0, 1) := by decide +kernel
theorem dX8_wall_187 : decode cX8_wall 187 = .ok (.putfield 124, 3) := by decide +kernel
theorem dX8_wall_190 : decode cX8_wall 190 = .ok (.aload_n 0, 1) := by decide +kernel
theorem dX8_wall_191 : decode cX8_wall 191 = .ok (.iconst 0, 1) := by decide +kernel
theorem dX8_wall_192 : decode cX8_wall 192 = .ok (.bipush 90, 2) := by decide +kernel
theorem dX8_wall_194 : decode cX8_wall 194 = .ok (.bipush 90, 2) := by decide +kernel
theorem dX8_wall_196 : decode cX8_wall 196 = .ok (.bipush 90, 2) := by decide +kernel
theorem dX8_wall_198 : decode cX8_wall 198 = .ok (.invokevirtual 127, 3) := by decide +kernel
theorem dX8_wall_201 : decode cX8_wall 201 = .ok (.pop, 1) := by decide +kernel
theorem dX8_wall_202 : decode cX8_wall 202 = .ok (.aload_n 0, 1) := by decide +kernel
theorem dX8_wall_203 : decode cX8_wall 203 = .ok (.invokevirtual 81, 3) := by decide +kernel
theorem dX8_wall_206 : decode cX8_wall 206 = .ok (.ireturn, 1) := by decide +kernel
set_option maxRecDepth 20000 in
theorem ggX8_readWall_X8_digit : GoodIn wsX8_readWall wsX8_digit := goodIn_r _ [10, 1, 2, 11, 12, 9, 13, 14, 15, 16, 17, 18, 19, 20, 21, 22, 23, 24, 25, 26, 27, 28, 29, 30, 31, 32, 33, 34, 35, 36, 37, 38, 39, 40, 41, 42, 43, 44, 45, 46, 47, 48] (by decide +kernel) (by decide +kernel)
set_option maxRecDepth 20000 in
theorem gX8_readWall_X8_digit : GoodIn wsX8_readWall (wsV RX8 130 RX8 yX8_digit wsX8_digit) := goodIn_app (goodIn_of _ (by decide +kernel)) ggX8_readWall_X8_digit
theorem dX8_readWall_0 : decode cX8_readWall 0 = .ok (.aload_n 0, 1) := by decide +kernel
theorem dX8_readWall_1 : decode cX8_readWall 1 = .ok (.getfield 85, 3) := by decide +kernel
theorem dX8_readWall_4 : decode cX8_readWall 4 = .ok (.iload_n 1, 1) := by decide +kernel
theorem dX8_readWall_5 : decode cX8_readWall 5 = .ok (.if_icmp .ge 17, 3) := by decide +kernel
theorem dX8_readWall_8 : decode cX8_readWall 8 = .ok (.aload_n 0, 1) := by decide +kernel
theorem dX8_readWall_9 : decode cX8_readWall 9 = .ok (.getfield 16, 3) := by decide +kernel
theorem dX8_readWall_12 : decode cX8_readWall 12 = .ok (.aload_n 0, 1) := by decide +kernel
theorem dX8_readWall_13 : decode cX8_readWall 13 = .ok (.getfield 85, 3) := by decide +kernel
theorem dX8_readWall_16 : decode cX8_readWall 16 = .ok (.iaload, 1) := by decide +kernel
theorem dX8_readWall_17 : decode cX8_readWall 17 = .ok (.bipush 119, 2) := by decide +kernel
theorem dX8_readWall_19 : decode cX8_readWall 19 = .ok (.if_icmp .eq 5, 3) := by decide +kernel
theorem dX8_readWall_22 : decode cX8_readWall 22 = .ok (.iconst 0, 1) := by decide +kernel
theorem dX8_readWall_23 : decode cX8_readWall 23 = .ok (.ireturn, 1) := by decide +kernel
theorem dX8_readWall_24 : decode cX8_readWall 24 = .ok (.aload_n 0, 1) := by decide +kernel
theorem dX8_readWall_25 : decode cX8_readWall 25 = .ok (.dup, 1) := by decide +kernel
theorem dX8_readWall_26 : decode cX8_readWall 26 = .ok (.getfield 85, 3) := by decide +kernel
theorem dX8_readWall_29 : decode cX8_readWall 29 = .ok (.iconst 1, 1) := by decide +kernel
theorem dX8_readWall_30 : decode cX8_readWall 30 = .ok (.iadd, 1) := by decide +kernel
theorem dX8_readWall_31 : decode cX8_readWall 31 = .ok (.putfield 85, 3) := by decide +kernel
theorem dX8_readWall_34 : decode cX8_readWall 34 = .ok (.aload_n 0, 1) := by decide +kernel
theorem dX8_readWall_35 : decode cX8_readWall 35 = .ok (.aload_n 0, 1) := by decide +kernel
theorem dX8_readWall_36 : decode cX8_readWall 36 = .ok (.iload_n 1, 1) := by decide +kernel
theorem dX8_readWall_37 : decode cX8_readWall 37 = .ok (.iconst 1, 1) := by decide +kernel
theorem dX8_readWall_38 : decode cX8_readWall 38 = .ok (.iconst 4, 1) := by decide +kernel
theorem dX8_readWall_39 : decode cX8_readWall 39 = .ok (.invokevirtual 130, 3) := by decide +kernel
theorem dX8_readWall_42 : decode cX8_readWall 42 = .ok (.putfield 106, 3) := by decide +kernel
theorem dX8_readWall_45 : decode cX8_readWall 45 = .ok (.aload_n 0, 1) := by decide +kernel
theorem dX8_readWall_46 : decode cX8_readWall 46 = .ok (.getfield 106, 3) := by decide +kernel
theorem dX8_readWall_49 : decode cX8_readWall 49 = .ok (.bipush (-9), 2) := by decide +kernel
theorem dX8_readWall_51 : decode cX8_readWall 51 = .ok (.if_icmp .ne 5, 3) := by decide +kernel
theorem dX8_readWall_54 : decode cX8_readWall 54 = .ok (.iconst 0, 1) := by decide +kernel
theorem dX8_readWall_55 : decode cX8_readWall 55 = .ok (.ireturn, 1) := by decide +kernel
theorem dX8_readWall_56 : decode cX8_readWall 56 = .ok (.aload_n 0, 1) := by decide +kernel
theorem dX8_readWall_57 : decode cX8_readWall 57 = .ok (.aload_n 0, 1) := by decide +kernel
theorem dX8_readWall_58 : decode cX8_readWall 58 = .ok (.iload_n 1, 1) := by decide +kernel
theorem dX8_readWall_59 : decode cX8_readWall 59 = .ok (.iconst 2, 1) := by decide +kernel
theorem dX8_readWall_60 : decode cX8_readWall 60 = .ok (.bipush 6, 2) := by decide +kernel
theorem dX8_readWall_62 : decode cX8_readWall 62 = .ok (.invokevirtual 130, 3) := by decide +kernel
theorem dX8_readWall_65 : decode cX8_readWall 65 = .ok (.putfield 109, 3) := by decide +kernel
theorem dX8_readWall_68 : decode cX8_readWall 68 = .ok (.aload_n 0, 1) := by decide +kernel
theorem dX8_readWall_69 : decode cX8_readWall 69 = .ok (.getfield 109, 3) := by decide +kernel
theorem dX8_readWall_72 : decode cX8_readWall 72 = .ok (.bipush (-9), 2) := by decide +kernel
theorem dX8_readWall_74 : decode cX8_readWall 74 = .ok (.if_icmp .ne 5, 3) := by decide +kernel
theorem dX8_readWall_77 : decode cX8_readWall 77 = .ok (.iconst 0, 1) := by decide +kernel
theorem dX8_readWall_78 : decode cX8_readWall 78 = .ok (.ireturn, 1) := by decide +kernel
theorem dX8_readWall_79 : decode cX8_readWall 79 = .ok (.iconst 0, 1) := by decide +kernel
theorem dX8_readWall_80 : decode cX8_readWall 80 = .ok (.istore_n 2, 1) := by decide +kernel
theorem dX8_readWall_81 : decode cX8_readWall 81 = .ok (.iload_n 2, 1) := by decide +kernel
theorem dX8_readWall_82 : decode cX8_readWall 82 = .ok (.aload_n 0, 1) := by decide +kernel
theorem dX8_readWall_83 : decode cX8_readWall 83 = .ok (.getfield 106, 3) := by decide +kernel
theorem dX8_readWall_86 : decode cX8_readWall 86 = .ok (.if_icmp .ge 93, 3) := by decide +kernel
theorem dX8_readWall_89 : decode cX8_readWall 89 = .ok (.aload_n 0, 1) := by decide +kernel
theorem dX8_readWall_90 : decode cX8_readWall 90 = .ok (.getfield 85, 3) := by decide +kernel
theorem dX8_readWall_93 : decode cX8_readWall 93 = .ok (.iload_n 1, 1) := by decide +kernel
theorem dX8_readWall_94 : decode cX8_readWall 94 = .ok (.if_icmp .ge 17, 3) := by decide +kernel
theorem dX8_readWall_97 : decode cX8_readWall 97 = .ok (.aload_n 0, 1) := by decide +kernel
theorem dX8_readWall_98 : decode cX8_readWall 98 = .ok (.getfield 16, 3) := by decide +kernel
theorem dX8_readWall_101 : decode cX8_readWall 101 = .ok (.aload_n 0, 1) := by decide +kernel
theorem dX8_readWall_102 : decode cX8_readWall 102 = .ok (.getfield 85, 3) := by decide +kernel
theorem dX8_readWall_105 : decode cX8_readWall 105 = .ok (.iaload, 1) := by decide +kernel
theorem dX8_readWall_106 : decode cX8_readWall 106 = .ok (.bipush 59, 2) := by decide +kernel
theorem dX8_readWall_108 : decode cX8_readWall 108 = .ok (.if_icmp .eq 5, 3) := by decide +kernel
theorem dX8_readWall_111 : decode cX8_readWall 111 = .ok (.iconst 0, 1) := by decide +kernel
theorem dX8_readWall_112 : decode cX8_readWall 112 = .ok (.ireturn, 1) := by decide +kernel
theorem dX8_readWall_113 : decode cX8_readWall 113 = .ok (.aload_n 0, 1) := by decide +kernel
theorem dX8_readWall_114 : decode cX8_readWall 114 = .ok (.dup, 1) := by decide +kernel
theorem dX8_readWall_115 : decode cX8_readWall 115 = .ok (.getfield 85, 3) := by decide +kernel
theorem dX8_readWall_118 : decode cX8_readWall 118 = .ok (.iconst 1, 1) := by decide +kernel
theorem dX8_readWall_119 : decode cX8_readWall 119 = .ok (.iadd, 1) := by decide +kernel
theorem dX8_readWall_120 : decode cX8_readWall 120 = .ok (.putfield 85, 3) := by decide +kernel
theorem dX8_readWall_123 : decode cX8_readWall 123 = .ok (.iconst 0, 1) := by decide +kernel
theorem dX8_readWall_124 : decode cX8_readWall 124 = .ok (.istore_n 3, 1) := by decide +kernel
theorem dX8_readWall_125 : decode cX8_readWall 125 = .ok (.iload_n 3, 1) := by decide +kernel
theorem dX8_readWall_126 : decode cX8_readWall 126 = .ok (.aload_n 0, 1) := by decide +kernel
theorem dX8_readWall_127 : decode cX8_readWall 127 = .ok (.getfield 109, 3) := by decide +kernel
theorem dX8_readWall_130 : decode cX8_readWall 130 = .ok (.if_icmp .ge 43, 3) := by decide +kernel
theorem dX8_readWall_133 : decode cX8_readWall 133 = .ok (.aload_n 0, 1) := by decide +kernel
theorem dX8_readWall_134 : decode cX8_readWall 134 = .ok (.iload_n 1, 1) := by decide +kernel
theorem dX8_readWall_135 : decode cX8_readWall 135 = .ok (.iconst 0, 1) := by decide +kernel
theorem dX8_readWall_136 : decode cX8_readWall 136 = .ok (.bipush 9, 2) := by decide +kernel
theorem dX8_readWall_138 : decode cX8_readWall 138 = .ok (.invokevirtual 130, 3) := by decide +kernel
theorem dX8_readWall_141 : decode cX8_readWall 141 = .ok (.istore 4, 2) := by decide +kernel
theorem dX8_readWall_143 : decode cX8_readWall 143 = .ok (.iload 4, 2) := by decide +kernel
theorem dX8_readWall_145 : decode cX8_readWall 145 = .ok (.bipush (-9), 2) := by decide +kernel
theorem dX8_readWall_147 : decode cX8_readWall 147 = .ok (.if_icmp .ne 5, 3) := by decide +kernel
theorem dX8_readWall_150 : decode cX8_readWall 150 = .ok (.iconst 0, 1) := by decide +kernel
theorem dX8_readWall_151 : decode cX8_readWall 151 = .ok (.ireturn, 1) := by decide +kernel
theorem dX8_readWall_152 : decode cX8_readWall 152 = .ok (.aload_n 0, 1) := by decide +kernel
theorem dX8_readWall_153 : decode cX8_readWall 153 = .ok (.getfield 35, 3) := by decide +kernel
theorem dX8_readWall_156 : decode cX8_readWall 156 = .ok (.aload_n 0, 1) := by decide +kernel
theorem dX8_readWall_157 : decode cX8_readWall 157 = .ok (.getfield 109, 3) := by decide +kernel
theorem dX8_readWall_160 : decode cX8_readWall 160 = .ok (.iload_n 2, 1) := by decide +kernel
theorem dX8_readWall_161 : decode cX8_readWall 161 = .ok (.imul, 1) := by decide +kernel
theorem dX8_readWall_162 : decode cX8_readWall 162 = .ok (.iload_n 3, 1) := by decide +kernel
theorem dX8_readWall_163 : decode cX8_readWall 163 = .ok (.iadd, 1) := by decide +kernel
theorem dX8_readWall_164 : decode cX8_readWall 164 = .ok (.iload 4, 2) := by decide +kernel
theorem dX8_readWall_166 : decode cX8_readWall 166 = .ok (.iastore, 1) := by decide +kernel
theorem dX8_readWall_167 : decode cX8_readWall 167 = .ok (.iinc 3 1, 3) := by decide +kernel
theorem dX8_readWall_170 : decode cX8_readWall 170 = .ok (.goto (-45), 3) := by decide +kernel
theorem dX8_readWall_173 : decode cX8_readWall 173 = .ok (.iinc 2 1, 3) := by decide +kernel
theorem dX8_readWall_176 : decode cX8_readWall 176 = .ok (.goto (-95), 3) := by decide +kernel
theorem dX8_readWall_179 : decode cX8_readWall 179 = .ok (.aload_n 0, 1) := by decide +kernel
theorem dX8_readWall_180 : decode cX8_readWall 180 = .ok (.getfield 85, 3) := by decide +kernel
theorem dX8_readWall_183 : decode cX8_readWall 183 = .ok (.iload_n 1, 1) := by decide +kernel
theorem dX8_readWall_184 : decode cX8_readWall 184 = .ok (.if_icmp .ne 7, 3) := by decide +kernel
theorem dX8_readWall_187 : decode cX8_readWall 187 = .ok (.iconst 1, 1) := by decide +kernel
theorem dX8_readWall_188 : decode cX8_readWall 188 = .ok (.goto 4, 3) := by decide +kernel
theorem dX8_readWall_191 : decode cX8_readWall 191 = .ok (.iconst 0, 1) := by decide +kernel
theorem dX8_readWall_192 : decode cX8_readWall 192 = .ok (.ireturn, 1) := by decide +kernel
set_option maxRecDepth 20000 in
theorem ggX8_ofCell_X8_isCell : GoodIn wsX8_ofCell wsX8_isCell := goodIn_r _ [10, 11, 12, 13, 9, 14, 15, 16, 17, 18, 19, 20, 21, 22, 23, 24, 25, 26, 27, 28, 29, 30, 31, 32, 33, 34, 35, 36, 37, 38, 39, 40, 41, 42, 43, 44, 45, 46, 47, 48, 49, 50, 51] (by decide +kernel) (by decide +kernel)
set_option maxRecDepth 20000 in
theorem gX8_ofCell_X8_isCell : GoodIn wsX8_ofCell (wsV RX8 134 RX8 yX8_isCell wsX8_isCell) := goodIn_app (goodIn_of _ (by decide +kernel)) ggX8_ofCell_X8_isCell
theorem dX8_ofCell_0 : decode cX8_ofCell 0 = .ok (.aload_n 0, 1) := by decide +kernel
theorem dX8_ofCell_1 : decode cX8_ofCell 1 = .ok (.iload_n 1, 1) := by decide +kernel
theorem dX8_ofCell_2 : decode cX8_ofCell 2 = .ok (.invokevirtual 134, 3) := by decide +kernel
theorem dX8_ofCell_5 : decode cX8_ofCell 5 = .ok (.ifCond .ne 5, 3) := by decide +kernel
theorem dX8_ofCell_8 : decode cX8_ofCell 8 = .ok (.iconst (-1), 1) := by decide +kernel
theorem dX8_ofCell_9 : decode cX8_ofCell 9 = .ok (.ireturn, 1) := by decide +kernel
theorem dX8_ofCell_10 : decode cX8_ofCell 10 = .ok (.iload_n 2, 1) := by decide +kernel
theorem dX8_ofCell_11 : decode cX8_ofCell 11 = .ok (.tableswitch 76 0 4 #[33, 40, 47, 54, 61], 33) := by decide +kernel
theorem dX8_ofCell_44 : decode cX8_ofCell 44 = .ok (.aload_n 0, 1) := by decide +kernel
theorem dX8_ofCell_45 : decode cX8_ofCell 45 = .ok (.getfield 19, 3) := by decide +kernel
theorem dX8_ofCell_48 : decode cX8_ofCell 48 = .ok (.iload_n 1, 1) := by decide +kernel
theorem dX8_ofCell_49 : decode cX8_ofCell 49 = .ok (.iaload, 1) := by decide +kernel
theorem dX8_ofCell_50 : decode cX8_ofCell 50 = .ok (.ireturn, 1) := by decide +kernel
theorem dX8_ofCell_51 : decode cX8_ofCell 51 = .ok (.aload_n 0, 1) := by decide +kernel
theorem dX8_ofCell_52 : decode cX8_ofCell 52 = .ok (.getfield 22, 3) := by decide +kernel
theorem dX8_ofCell_55 : decode cX8_ofCell 55 = .ok (.iload_n 1, 1) := by decide +kernel
theorem dX8_ofCell_56 : decode cX8_ofCell 56 = .ok (.iaload, 1) := by decide +kernel
theorem dX8_ofCell_57 : decode cX8_ofCell 57 = .ok (.ireturn, 1) := by decide +kernel
theorem dX8_ofCell_58 : decode cX8_ofCell 58 = .ok (.aload_n 0, 1) := by decide +kernel
theorem dX8_ofCell_59 : decode cX8_ofCell 59 = .ok (.getfield 25, 3) := by decide +kernel
theorem dX8_ofCell_62 : decode cX8_ofCell 62 = .ok (.iload_n 1, 1) := by decide +kernel
theorem dX8_ofCell_63 : decode cX8_ofCell 63 = .ok (.iaload, 1) := by decide +kernel
theorem dX8_ofCell_64 : decode cX8_ofCell 64 = .ok (.ireturn, 1) := by decide +kernel
theorem dX8_ofCell_65 : decode cX8_ofCell 65 = .ok (.aload_n 0, 1) := by decide +kernel
theorem dX8_ofCell_66 : decode cX8_ofCell 66 = .ok (.getfield 28, 3) := by decide +kernel
theorem dX8_ofCell_69 : decode cX8_ofCell 69 = .ok (.iload_n 1, 1) := by decide +kernel
theorem dX8_ofCell_70 : decode cX8_ofCell 70 = .ok (.iaload, 1) := by decide +kernel
theorem dX8_ofCell_71 : decode cX8_ofCell 71 = .ok (.ireturn, 1) := by decide +kernel
theorem dX8_ofCell_72 : decode cX8_ofCell 72 = .ok (.aload_n 0, 1) := by decide +kernel
theorem dX8_ofCell_73 : decode cX8_ofCell 73 = .ok (.getfield 31, 3) := by decide +kernel
theorem dX8_ofCell_76 : decode cX8_ofCell 76 = .ok (.iload_n 1, 1) := by decide +kernel
theorem dX8_ofCell_77 : decode cX8_ofCell 77 = .ok (.baload, 1) := by decide +kernel
theorem dX8_ofCell_78 : decode cX8_ofCell 78 = .ok (.ifCond .eq 7, 3) := by decide +kernel
theorem dX8_ofCell_81 : decode cX8_ofCell 81 = .ok (.iconst 1, 1) := by decide +kernel
theorem dX8_ofCell_82 : decode cX8_ofCell 82 = .ok (.goto 4, 3) := by decide +kernel
theorem dX8_ofCell_85 : decode cX8_ofCell 85 = .ok (.iconst 0, 1) := by decide +kernel
theorem dX8_ofCell_86 : decode cX8_ofCell 86 = .ok (.ireturn, 1) := by decide +kernel
theorem dX8_ofCell_87 : decode cX8_ofCell 87 = .ok (.bipush (-2), 2) := by decide +kernel
theorem dX8_ofCell_89 : decode cX8_ofCell 89 = .ok (.ireturn, 1) := by decide +kernel
set_option maxRecDepth 20000 in
theorem ggX8_set_X8_within : GoodIn wsX8_set wsX8_within := goodIn_r _ [6] (by decide +kernel) (by decide +kernel)
set_option maxRecDepth 20000 in
theorem gX8_set_X8_within : GoodIn wsX8_set (va_wsS RX8 71 yX8_within wsX8_within) := goodIn_app (goodIn_of _ (by decide +kernel)) ggX8_set_X8_within
set_option maxRecDepth 20000 in
theorem ggX8_set_X8_all : GoodIn wsX8_set wsX8_all := goodIn_r _ [10, 11, 12, 13, 14, 15, 16, 17, 18, 19, 20, 21, 22, 23, 24, 25, 26, 27, 28, 29, 30, 31, 32, 33, 34, 35, 36, 37, 38, 39, 40, 41, 42, 43, 44, 45, 46, 47] (by decide +kernel) (by decide +kernel)
set_option maxRecDepth 20000 in
theorem gX8_set_X8_all : GoodIn wsX8_set (wsV RX8 81 RX8 yX8_all wsX8_all) := goodIn_app (goodIn_of _ (by decide +kernel)) ggX8_set_X8_all
theorem dX8_set_0 : decode cX8_set 0 = .ok (.iload_n 1, 1) := by decide +kernel
theorem dX8_set_1 : decode cX8_set 1 = .ok (.iconst 0, 1) := by decide +kernel
theorem dX8_set_2 : decode cX8_set 2 = .ok (.iconst 1, 1) := by decide +kernel
theorem dX8_set_3 : decode cX8_set 3 = .ok (.invokestatic 71, 3) := by decide +kernel
theorem dX8_set_6 : decode cX8_set 6 = .ok (.ifCond .eq 23, 3) := by decide +kernel
theorem dX8_set_9 : decode cX8_set 9 = .ok (.iload_n 2, 1) := by decide +kernel
theorem dX8_set_10 : decode cX8_set 10 = .ok (.iconst 0, 1) := by decide +kernel
theorem dX8_set_11 : decode cX8_set 11 = .ok (.iload_n 1, 1) := by decide +kernel
theorem dX8_set_12 : decode cX8_set 12 = .ok (.ifCond .ne 8, 3) := by decide +kernel
theorem dX8_set_15 : decode cX8_set 15 = .ok (.bipush 9, 2) := by decide +kernel
theorem dX8_set_17 : decode cX8_set 17 = .ok (.goto 6, 3) := by decide +kernel
theorem dX8_set_20 : decode cX8_set 20 = .ok (.sipush 999, 3) := by decide +kernel
theorem dX8_set_23 : decode cX8_set 23 = .ok (.invokestatic 71, 3) := by decide +kernel
theorem dX8_set_26 : decode cX8_set 26 = .ok (.ifCond .ne 6, 3) := by decide +kernel
theorem dX8_set_29 : decode cX8_set 29 = .ok (.bipush (-2), 2) := by decide +kernel
theorem dX8_set_31 : decode cX8_set 31 = .ok (.ireturn, 1) := by decide +kernel
theorem dX8_set_32 : decode cX8_set 32 = .ok (.aload_n 0, 1) := by decide +kernel
theorem dX8_set_33 : decode cX8_set 33 = .ok (.invokevirtual 81, 3) := by decide +kernel
theorem dX8_set_36 : decode cX8_set 36 = .ok (.ifCond .ne 6, 3) := by decide +kernel
theorem dX8_set_39 : decode cX8_set 39 = .ok (.bipush (-3), 2) := by decide +kernel
theorem dX8_set_41 : decode cX8_set 41 = .ok (.ireturn, 1) := by decide +kernel
theorem dX8_set_42 : decode cX8_set 42 = .ok (.iload_n 1, 1) := by decide +kernel
theorem dX8_set_43 : decode cX8_set 43 = .ok (.ifCond .ne 10, 3) := by decide +kernel
theorem dX8_set_46 : decode cX8_set 46 = .ok (.aload_n 0, 1) := by decide +kernel
theorem dX8_set_47 : decode cX8_set 47 = .ok (.getfield 115, 3) := by decide +kernel
theorem dX8_set_50 : decode cX8_set 50 = .ok (.goto 7, 3) := by decide +kernel
theorem dX8_set_53 : decode cX8_set 53 = .ok (.aload_n 0, 1) := by decide +kernel
theorem dX8_set_54 : decode cX8_set 54 = .ok (.getfield 118, 3) := by decide +kernel
theorem dX8_set_57 : decode cX8_set 57 = .ok (.istore_n 3, 1) := by decide +kernel
theorem dX8_set_58 : decode cX8_set 58 = .ok (.aload_n 0, 1) := by decide +kernel
theorem dX8_set_59 : decode cX8_set 59 = .ok (.iload_n 1, 1) := by decide +kernel
theorem dX8_set_60 : decode cX8_set 60 = .ok (.ifCond .ne 7, 3) := by decide +kernel
theorem dX8_set_63 : decode cX8_set 63 = .ok (.iload_n 2, 1) := by decide +kernel
theorem dX8_set_64 : decode cX8_set 64 = .ok (.goto 7, 3) := by decide +kernel
theorem dX8_set_67 : decode cX8_set 67 = .ok (.aload_n 0, 1) := by decide +kernel
theorem dX8_set_68 : decode cX8_set 68 = .ok (.getfield 115, 3) := by decide +kernel
theorem dX8_set_71 : decode cX8_set 71 = .ok (.putfield 115, 3) := by decide +kernel
theorem dX8_set_74 : decode cX8_set 74 = .ok (.aload_n 0, 1) := by decide +kernel
theorem dX8_set_75 : decode cX8_set 75 = .ok (.iload_n 1, 1) := by decide +kernel
theorem dX8_set_76 : decode cX8_set 76 = .ok (.iconst 1, 1) := by decide +kernel
theorem dX8_set_77 : decode cX8_set 77 = .ok (.if_icmp .ne 7, 3) := by decide +kernel
theorem dX8_set_80 : decode cX8_set 80 = .ok (.iload_n 2, 1) := by decide +kernel
theorem dX8_set_81 : decode cX8_set 81 = .ok (.goto 7, 3) := by decide +kernel
theorem dX8_set_84 : decode cX8_set 84 = .ok (.aload_n 0, 1) := by decide +kernel
theorem dX8_set_85 : decode cX8_set 85 = .ok (.getfield 118, 3) := by decide +kernel
theorem dX8_set_88 : decode cX8_set 88 = .ok (.putfield 118, 3) := by decide +kernel
theorem dX8_set_91 : decode cX8_set 91 = .ok (.iload_n 3, 1) := by decide +kernel
theorem dX8_set_92 : decode cX8_set 92 = .ok (.ireturn, 1) := by decide +kernel
set_option maxRecDepth 20000 in
theorem ggX8_years_X8_within : GoodIn wsX8_years wsX8_within := goodIn_r _ [9] (by decide +kernel) (by decide +kernel)
set_option maxRecDepth 20000 in
theorem gX8_years_X8_within : GoodIn wsX8_years (va_wsS RX8 71 yX8_within wsX8_within) := goodIn_app (goodIn_of _ (by decide +kernel)) ggX8_years_X8_within
set_option maxRecDepth 20000 in
theorem ggX8_years_X8_all : GoodIn wsX8_years wsX8_all := goodIn_r _ [13, 14, 15, 16, 17, 18, 19, 20, 21, 22, 23, 24, 25, 26, 27, 28, 29, 30, 31, 32, 33, 34, 35, 36, 37, 38, 39, 40, 41, 42, 43, 44, 45, 46, 47, 48, 49, 50] (by decide +kernel) (by decide +kernel)
set_option maxRecDepth 20000 in
theorem gX8_years_X8_all : GoodIn wsX8_years (wsV RX8 81 RX8 yX8_all wsX8_all) := goodIn_app (goodIn_of _ (by decide +kernel)) ggX8_years_X8_all
theorem dX8_years_0 : decode cX8_years 0 = .ok (.iload_n 1, 1) := by decide +kernel
theorem dX8_years_1 : decode cX8_years 1 = .ok (.iconst 0, 1) := by decide +kernel
theorem dX8_years_2 : decode cX8_years 2 = .ok (.bipush 40, 2) := by decide +kernel
theorem dX8_years_4 : decode cX8_years 4 = .ok (.invokestatic 71, 3) := by decide +kernel
theorem dX8_years_7 : decode cX8_years 7 = .ok (.ifCond .eq 14, 3) := by decide +kernel
theorem dX8_years_10 : decode cX8_years 10 = .ok (.aload_n 0, 1) := by decide +kernel
theorem dX8_years_11 : decode cX8_years 11 = .ok (.getfield 112, 3) := by decide +kernel
theorem dX8_years_14 : decode cX8_years 14 = .ok (.iload_n 1, 1) := by decide +kernel
theorem dX8_years_15 : decode cX8_years 15 = .ok (.iadd, 1) := by decide +kernel
theorem dX8_years_16 : decode cX8_years 16 = .ok (.bipush 40, 2) := by decide +kernel
theorem dX8_years_18 : decode cX8_years 18 = .ok (.if_icmp .le 6, 3) := by decide +kernel
theorem dX8_years_21 : decode cX8_years 21 = .ok (.bipush (-2), 2) := by decide +kernel
theorem dX8_years_23 : decode cX8_years 23 = .ok (.ireturn, 1) := by decide +kernel
theorem dX8_years_24 : decode cX8_years 24 = .ok (.aload_n 0, 1) := by decide +kernel
theorem dX8_years_25 : decode cX8_years 25 = .ok (.invokevirtual 81, 3) := by decide +kernel
theorem dX8_years_28 : decode cX8_years 28 = .ok (.ifCond .ne 6, 3) := by decide +kernel
theorem dX8_years_31 : decode cX8_years 31 = .ok (.bipush (-3), 2) := by decide +kernel
theorem dX8_years_33 : decode cX8_years 33 = .ok (.ireturn, 1) := by decide +kernel
theorem dX8_years_34 : decode cX8_years 34 = .ok (.iconst 0, 1) := by decide +kernel
theorem dX8_years_35 : decode cX8_years 35 = .ok (.istore_n 2, 1) := by decide +kernel
theorem dX8_years_36 : decode cX8_years 36 = .ok (.iload_n 2, 1) := by decide +kernel
theorem dX8_years_37 : decode cX8_years 37 = .ok (.aload_n 0, 1) := by decide +kernel
theorem dX8_years_38 : decode cX8_years 38 = .ok (.invokevirtual 81, 3) := by decide +kernel
theorem dX8_years_41 : decode cX8_years 41 = .ok (.if_icmp .ge 45, 3) := by decide +kernel
theorem dX8_years_44 : decode cX8_years 44 = .ok (.aload_n 0, 1) := by decide +kernel
theorem dX8_years_45 : decode cX8_years 45 = .ok (.getfield 31, 3) := by decide +kernel
theorem dX8_years_48 : decode cX8_years 48 = .ok (.iload_n 2, 1) := by decide +kernel
theorem dX8_years_49 : decode cX8_years 49 = .ok (.baload, 1) := by decide +kernel
theorem dX8_years_50 : decode cX8_years 50 = .ok (.ifCond .ne 30, 3) := by decide +kernel
theorem dX8_years_53 : decode cX8_years 53 = .ok (.aload_n 0, 1) := by decide +kernel
theorem dX8_years_54 : decode cX8_years 54 = .ok (.getfield 25, 3) := by decide +kernel
theorem dX8_years_57 : decode cX8_years 57 = .ok (.iload_n 2, 1) := by decide +kernel
theorem dX8_years_58 : decode cX8_years 58 = .ok (.dup2, 1) := by decide +kernel
theorem dX8_years_59 : decode cX8_years 59 = .ok (.iaload, 1) := by decide +kernel
theorem dX8_years_60 : decode cX8_years 60 = .ok (.iload_n 1, 1) := by decide +kernel
theorem dX8_years_61 : decode cX8_years 61 = .ok (.aload_n 0, 1) := by decide +kernel
theorem dX8_years_62 : decode cX8_years 62 = .ok (.getfield 19, 3) := by decide +kernel
theorem dX8_years_65 : decode cX8_years 65 = .ok (.iload_n 2, 1) := by decide +kernel
theorem dX8_years_66 : decode cX8_years 66 = .ok (.iaload, 1) := by decide +kernel
theorem dX8_years_67 : decode cX8_years 67 = .ok (.imul, 1) := by decide +kernel
theorem dX8_years_68 : decode cX8_years 68 = .ok (.iadd, 1) := by decide +kernel
theorem dX8_years_69 : decode cX8_years 69 = .ok (.iastore, 1) := by decide +kernel
theorem dX8_years_70 : decode cX8_years 70 = .ok (.aload_n 0, 1) := by decide +kernel
theorem dX8_years_71 : decode cX8_years 71 = .ok (.getfield 28, 3) := by decide +kernel
theorem dX8_years_74 : decode cX8_years 74 = .ok (.iload_n 2, 1) := by decide +kernel
theorem dX8_years_75 : decode cX8_years 75 = .ok (.dup2, 1) := by decide +kernel
theorem dX8_years_76 : decode cX8_years 76 = .ok (.iaload, 1) := by decide +kernel
theorem dX8_years_77 : decode cX8_years 77 = .ok (.iload_n 1, 1) := by decide +kernel
theorem dX8_years_78 : decode cX8_years 78 = .ok (.iadd, 1) := by decide +kernel
theorem dX8_years_79 : decode cX8_years 79 = .ok (.iastore, 1) := by decide +kernel
theorem dX8_years_80 : decode cX8_years 80 = .ok (.iinc 2 1, 3) := by decide +kernel
theorem dX8_years_83 : decode cX8_years 83 = .ok (.goto (-47), 3) := by decide +kernel
theorem dX8_years_86 : decode cX8_years 86 = .ok (.aload_n 0, 1) := by decide +kernel
theorem dX8_years_87 : decode cX8_years 87 = .ok (.dup, 1) := by decide +kernel
theorem dX8_years_88 : decode cX8_years 88 = .ok (.getfield 112, 3) := by decide +kernel
theorem dX8_years_91 : decode cX8_years 91 = .ok (.iload_n 1, 1) := by decide +kernel
theorem dX8_years_92 : decode cX8_years 92 = .ok (.iadd, 1) := by decide +kernel
theorem dX8_years_93 : decode cX8_years 93 = .ok (.putfield 112, 3) := by decide +kernel
theorem dX8_years_96 : decode cX8_years 96 = .ok (.aload_n 0, 1) := by decide +kernel
theorem dX8_years_97 : decode cX8_years 97 = .ok (.getfield 112, 3) := by decide +kernel
theorem dX8_years_100 : decode cX8_years 100 = .ok (.ireturn, 1) := by decide +kernel
set_option maxRecDepth 20000 in
theorem ggX8_hang_X8_isCell : GoodIn wsX8_hang wsX8_isCell := goodIn_r _ [6, 7, 8, 9, 5, 10, 11, 12, 13, 14, 15, 16, 17, 18, 19, 20, 21, 22, 23, 24, 25, 26, 27, 28, 29, 30, 31, 32, 33, 34, 35, 36, 37, 38, 39, 40, 41, 42, 43, 44, 45, 46, 47] (by decide +kernel) (by decide +kernel)
set_option maxRecDepth 20000 in
theorem gX8_hang_X8_isCell : GoodIn wsX8_hang (wsV RX8 134 RX8 yX8_isCell wsX8_isCell) := goodIn_app (goodIn_of _ (by decide +kernel)) ggX8_hang_X8_isCell
theorem dX8_hang_0 : decode cX8_hang 0 = .ok (.aload_n 0, 1) := by decide +kernel
theorem dX8_hang_1 : decode cX8_hang 1 = .ok (.iload_n 1, 1) := by decide +kernel
theorem dX8_hang_2 : decode cX8_hang 2 = .ok (.invokevirtual 134, 3) := by decide +kernel
theorem dX8_hang_5 : decode cX8_hang 5 = .ok (.ifCond .ne 5, 3) := by decide +kernel
theorem dX8_hang_8 : decode cX8_hang 8 = .ok (.iconst (-1), 1) := by decide +kernel
theorem dX8_hang_9 : decode cX8_hang 9 = .ok (.ireturn, 1) := by decide +kernel
theorem dX8_hang_10 : decode cX8_hang 10 = .ok (.aload_n 0, 1) := by decide +kernel
theorem dX8_hang_11 : decode cX8_hang 11 = .ok (.getfield 31, 3) := by decide +kernel
theorem dX8_hang_14 : decode cX8_hang 14 = .ok (.iload_n 1, 1) := by decide +kernel
theorem dX8_hang_15 : decode cX8_hang 15 = .ok (.baload, 1) := by decide +kernel
theorem dX8_hang_16 : decode cX8_hang 16 = .ok (.istore_n 3, 1) := by decide +kernel
theorem dX8_hang_17 : decode cX8_hang 17 = .ok (.aload_n 0, 1) := by decide +kernel
theorem dX8_hang_18 : decode cX8_hang 18 = .ok (.getfield 31, 3) := by decide +kernel
theorem dX8_hang_21 : decode cX8_hang 21 = .ok (.iload_n 1, 1) := by decide +kernel
theorem dX8_hang_22 : decode cX8_hang 22 = .ok (.iload_n 2, 1) := by decide +kernel
theorem dX8_hang_23 : decode cX8_hang 23 = .ok (.bastore, 1) := by decide +kernel
theorem dX8_hang_24 : decode cX8_hang 24 = .ok (.iload_n 3, 1) := by decide +kernel
theorem dX8_hang_25 : decode cX8_hang 25 = .ok (.iload_n 2, 1) := by decide +kernel
theorem dX8_hang_26 : decode cX8_hang 26 = .ok (.if_icmp .ne 7, 3) := by decide +kernel
theorem dX8_hang_29 : decode cX8_hang 29 = .ok (.iconst 0, 1) := by decide +kernel
theorem dX8_hang_30 : decode cX8_hang 30 = .ok (.goto 4, 3) := by decide +kernel
theorem dX8_hang_33 : decode cX8_hang 33 = .ok (.iconst 1, 1) := by decide +kernel
theorem dX8_hang_34 : decode cX8_hang 34 = .ok (.ireturn, 1) := by decide +kernel
theorem dX8_isCoat_0 : decode cX8_isCoat 0 = .ok (.iload_n 1, 1) := by decide +kernel
theorem dX8_isCoat_1 : decode cX8_isCoat 1 = .ok (.ifCond .lt 15, 3) := by decide +kernel
theorem dX8_isCoat_4 : decode cX8_isCoat 4 = .ok (.iload_n 1, 1) := by decide +kernel
theorem dX8_isCoat_5 : decode cX8_isCoat 5 = .ok (.aload_n 0, 1) := by decide +kernel
theorem dX8_isCoat_6 : decode cX8_isCoat 6 = .ok (.getfield 124, 3) := by decide +kernel
theorem dX8_isCoat_9 : decode cX8_isCoat 9 = .ok (.if_icmp .ge 7, 3) := by decide +kernel
theorem dX8_isCoat_12 : decode cX8_isCoat 12 = .ok (.iconst 1, 1) := by decide +kernel
theorem dX8_isCoat_13 : decode cX8_isCoat 13 = .ok (.goto 4, 3) := by decide +kernel
theorem dX8_isCoat_16 : decode cX8_isCoat 16 = .ok (.iconst 0, 1) := by decide +kernel
theorem dX8_isCoat_17 : decode cX8_isCoat 17 = .ok (.ireturn, 1) := by decide +kernel
theorem dX8_isLight_0 : decode cX8_isLight 0 = .ok (.iload_n 1, 1) := by decide +kernel
theorem dX8_isLight_1 : decode cX8_isLight 1 = .ok (.ifCond .lt 15, 3) := by decide +kernel
theorem dX8_isLight_4 : decode cX8_isLight 4 = .ok (.iload_n 1, 1) := by decide +kernel
theorem dX8_isLight_5 : decode cX8_isLight 5 = .ok (.aload_n 0, 1) := by decide +kernel
theorem dX8_isLight_6 : decode cX8_isLight 6 = .ok (.getfield 121, 3) := by decide +kernel
theorem dX8_isLight_9 : decode cX8_isLight 9 = .ok (.if_icmp .ge 7, 3) := by decide +kernel
theorem dX8_isLight_12 : decode cX8_isLight 12 = .ok (.iconst 1, 1) := by decide +kernel
theorem dX8_isLight_13 : decode cX8_isLight 13 = .ok (.goto 4, 3) := by decide +kernel
theorem dX8_isLight_16 : decode cX8_isLight 16 = .ok (.iconst 0, 1) := by decide +kernel
theorem dX8_isLight_17 : decode cX8_isLight 17 = .ok (.ireturn, 1) := by decide +kernel
theorem dX8_addCoat_0 : decode cX8_addCoat 0 = .ok (.aload_n 0, 1) := by decide +kernel
theorem dX8_addCoat_1 : decode cX8_addCoat 1 = .ok (.getfield 38, 3) := by decide +kernel
theorem dX8_addCoat_4 : decode cX8_addCoat 4 = .ok (.aload_n 0, 1) := by decide +kernel
theorem dX8_addCoat_5 : decode cX8_addCoat 5 = .ok (.getfield 124, 3) := by decide +kernel
theorem dX8_addCoat_8 : decode cX8_addCoat 8 = .ok (.iload_n 1, 1) := by decide +kernel
theorem dX8_addCoat_9 : decode cX8_addCoat 9 = .ok (.iastore, 1) := by decide +kernel
theorem dX8_addCoat_10 : decode cX8_addCoat 10 = .ok (.aload_n 0, 1) := by decide +kernel
theorem dX8_addCoat_11 : decode cX8_addCoat 11 = .ok (.getfield 41, 3) := by decide +kernel
theorem dX8_addCoat_14 : decode cX8_addCoat 14 = .ok (.iconst 3, 1) := by decide +kernel
theorem dX8_addCoat_15 : decode cX8_addCoat 15 = .ok (.aload_n 0, 1) := by decide +kernel
theorem dX8_addCoat_16 : decode cX8_addCoat 16 = .ok (.getfield 124, 3) := by decide +kernel
theorem dX8_addCoat_19 : decode cX8_addCoat 19 = .ok (.imul, 1) := by decide +kernel
theorem dX8_addCoat_20 : decode cX8_addCoat 20 = .ok (.iload_n 2, 1) := by decide +kernel
theorem dX8_addCoat_21 : decode cX8_addCoat 21 = .ok (.iastore, 1) := by decide +kernel
theorem dX8_addCoat_22 : decode cX8_addCoat 22 = .ok (.aload_n 0, 1) := by decide +kernel
theorem dX8_addCoat_23 : decode cX8_addCoat 23 = .ok (.getfield 41, 3) := by decide +kernel
theorem dX8_addCoat_26 : decode cX8_addCoat 26 = .ok (.iconst 3, 1) := by decide +kernel
theorem dX8_addCoat_27 : decode cX8_addCoat 27 = .ok (.aload_n 0, 1) := by decide +kernel
theorem dX8_addCoat_28 : decode cX8_addCoat 28 = .ok (.getfield 124, 3) := by decide +kernel
theorem dX8_addCoat_31 : decode cX8_addCoat 31 = .ok (.imul, 1) := by decide +kernel
theorem dX8_addCoat_32 : decode cX8_addCoat 32 = .ok (.iconst 1, 1) := by decide +kernel
theorem dX8_addCoat_33 : decode cX8_addCoat 33 = .ok (.iadd, 1) := by decide +kernel
theorem dX8_addCoat_34 : decode cX8_addCoat 34 = .ok (.iload_n 3, 1) := by decide +kernel
theorem dX8_addCoat_35 : decode cX8_addCoat 35 = .ok (.iastore, 1) := by decide +kernel
theorem dX8_addCoat_36 : decode cX8_addCoat 36 = .ok (.aload_n 0, 1) := by decide +kernel
theorem dX8_addCoat_37 : decode cX8_addCoat 37 = .ok (.getfield 41, 3) := by decide +kernel
theorem dX8_addCoat_40 : decode cX8_addCoat 40 = .ok (.iconst 3, 1) := by decide +kernel
theorem dX8_addCoat_41 : decode cX8_addCoat 41 = .ok (.aload_n 0, 1) := by decide +kernel
theorem dX8_addCoat_42 : decode cX8_addCoat 42 = .ok (.getfield 124, 3) := by decide +kernel
theorem dX8_addCoat_45 : decode cX8_addCoat 45 = .ok (.imul, 1) := by decide +kernel
theorem dX8_addCoat_46 : decode cX8_addCoat 46 = .ok (.iconst 2, 1) := by decide +kernel
theorem dX8_addCoat_47 : decode cX8_addCoat 47 = .ok (.iadd, 1) := by decide +kernel
theorem dX8_addCoat_48 : decode cX8_addCoat 48 = .ok (.iload 4, 2) := by decide +kernel
theorem dX8_addCoat_50 : decode cX8_addCoat 50 = .ok (.iastore, 1) := by decide +kernel
theorem dX8_addCoat_51 : decode cX8_addCoat 51 = .ok (.aload_n 0, 1) := by decide +kernel
theorem dX8_addCoat_52 : decode cX8_addCoat 52 = .ok (.dup, 1) := by decide +kernel
theorem dX8_addCoat_53 : decode cX8_addCoat 53 = .ok (.getfield 124, 3) := by decide +kernel
theorem dX8_addCoat_56 : decode cX8_addCoat 56 = .ok (.iconst 1, 1) := by decide +kernel
theorem dX8_addCoat_57 : decode cX8_addCoat 57 = .ok (.iadd, 1) := by decide +kernel
theorem dX8_addCoat_58 : decode cX8_addCoat 58 = .ok (.putfield 124, 3) := by decide +kernel
theorem dX8_addCoat_61 : decode cX8_addCoat 61 = .ok (.aload_n 0, 1) := by decide +kernel
theorem dX8_addCoat_62 : decode cX8_addCoat 62 = .ok (.getfield 124, 3) := by decide +kernel
theorem dX8_addCoat_65 : decode cX8_addCoat 65 = .ok (.iconst 1, 1) := by decide +kernel
theorem dX8_addCoat_66 : decode cX8_addCoat 66 = .ok (.isub, 1) := by decide +kernel
theorem dX8_addCoat_67 : decode cX8_addCoat 67 = .ok (.ireturn, 1) := by decide +kernel
set_option maxRecDepth 20000 in
theorem ggX8_coat_X8_within : GoodIn wsX8_coat wsX8_within := goodIn_r _ [5] (by decide +kernel) (by decide +kernel)
set_option maxRecDepth 20000 in
theorem gX8_coat_X8_within : GoodIn wsX8_coat (va_wsS RX8 71 yX8_within wsX8_within) := goodIn_app (goodIn_of _ (by decide +kernel)) ggX8_coat_X8_within
set_option maxRecDepth 20000 in
theorem ggX8_coat_X8_all : GoodIn wsX8_coat wsX8_all := goodIn_r _ [9, 10, 11, 18, 19, 20, 21, 22, 23, 24, 25, 26, 27, 28, 29, 30, 31, 32, 33, 34, 35, 36, 37, 38, 39, 40, 41, 42, 43, 44, 45, 46, 47, 48, 49, 50, 51, 52] (by decide +kernel) (by decide +kernel)
set_option maxRecDepth 20000 in
theorem gX8_coat_X8_all : GoodIn wsX8_coat (wsV RX8 81 RX8 yX8_all wsX8_all) := goodIn_app (goodIn_of _ (by decide +kernel)) ggX8_coat_X8_all
set_option maxRecDepth 20000 in
theorem ggX8_coat_X8_addCoat : GoodIn wsX8_coat wsX8_addCoat := goodIn_r _ [15, 16, 1, 17, 18, 19, 20, 21, 22, 23, 24, 25, 26, 27, 28, 29, 30, 31, 32, 33, 34, 35, 36, 37, 38, 39, 40, 41, 42, 43, 44, 45, 46, 47, 48, 49, 50, 51, 52] (by decide +kernel) (by decide +kernel)
set_option maxRecDepth 20000 in
theorem gX8_coat_X8_addCoat : GoodIn wsX8_coat (wsV RX8 127 RX8 yX8_addCoat wsX8_addCoat) := goodIn_app (goodIn_of _ (by decide +kernel)) ggX8_coat_X8_addCoat
theorem dX8_coat_0 : decode cX8_coat 0 = .ok (.iload_n 1, 1) := by decide +kernel
theorem dX8_coat_1 : decode cX8_coat 1 = .ok (.iconst 0, 1) := by decide +kernel
theorem dX8_coat_2 : decode cX8_coat 2 = .ok (.iconst 2, 1) := by decide +kernel
theorem dX8_coat_3 : decode cX8_coat 3 = .ok (.invokestatic 71, 3) := by decide +kernel
theorem dX8_coat_6 : decode cX8_coat 6 = .ok (.ifCond .eq 34, 3) := by decide +kernel
theorem dX8_coat_9 : decode cX8_coat 9 = .ok (.iload_n 2, 1) := by decide +kernel
theorem dX8_coat_10 : decode cX8_coat 10 = .ok (.iconst 0, 1) := by decide +kernel
theorem dX8_coat_11 : decode cX8_coat 11 = .ok (.bipush 99, 2) := by decide +kernel
theorem dX8_coat_13 : decode cX8_coat 13 = .ok (.invokestatic 71, 3) := by decide +kernel
theorem dX8_coat_16 : decode cX8_coat 16 = .ok (.ifCond .eq 24, 3) := by decide +kernel
theorem dX8_coat_19 : decode cX8_coat 19 = .ok (.iload_n 3, 1) := by decide +kernel
theorem dX8_coat_20 : decode cX8_coat 20 = .ok (.iconst 0, 1) := by decide +kernel
theorem dX8_coat_21 : decode cX8_coat 21 = .ok (.bipush 99, 2) := by decide +kernel
theorem dX8_coat_23 : decode cX8_coat 23 = .ok (.invokestatic 71, 3) := by decide +kernel
theorem dX8_coat_26 : decode cX8_coat 26 = .ok (.ifCond .eq 14, 3) := by decide +kernel
theorem dX8_coat_29 : decode cX8_coat 29 = .ok (.iload 4, 2) := by decide +kernel
theorem dX8_coat_31 : decode cX8_coat 31 = .ok (.iconst 0, 1) := by decide +kernel
theorem dX8_coat_32 : decode cX8_coat 32 = .ok (.bipush 99, 2) := by decide +kernel
theorem dX8_coat_34 : decode cX8_coat 34 = .ok (.invokestatic 71, 3) := by decide +kernel
theorem dX8_coat_37 : decode cX8_coat 37 = .ok (.ifCond .ne 6, 3) := by decide +kernel
theorem dX8_coat_40 : decode cX8_coat 40 = .ok (.bipush (-2), 2) := by decide +kernel
theorem dX8_coat_42 : decode cX8_coat 42 = .ok (.ireturn, 1) := by decide +kernel
theorem dX8_coat_43 : decode cX8_coat 43 = .ok (.aload_n 0, 1) := by decide +kernel
theorem dX8_coat_44 : decode cX8_coat 44 = .ok (.invokevirtual 81, 3) := by decide +kernel
theorem dX8_coat_47 : decode cX8_coat 47 = .ok (.ifCond .ne 6, 3) := by decide +kernel
theorem dX8_coat_50 : decode cX8_coat 50 = .ok (.bipush (-3), 2) := by decide +kernel
theorem dX8_coat_52 : decode cX8_coat 52 = .ok (.ireturn, 1) := by decide +kernel
theorem dX8_coat_53 : decode cX8_coat 53 = .ok (.aload_n 0, 1) := by decide +kernel
theorem dX8_coat_54 : decode cX8_coat 54 = .ok (.getfield 124, 3) := by decide +kernel
theorem dX8_coat_57 : decode cX8_coat 57 = .ok (.bipush 6, 2) := by decide +kernel
theorem dX8_coat_59 : decode cX8_coat 59 = .ok (.if_icmp .ne 8, 3) := by decide +kernel
theorem dX8_coat_62 : decode cX8_coat 62 = .ok (.bipush (-4), 2) := by decide +kernel
theorem dX8_coat_64 : decode cX8_coat 64 = .ok (.goto 12, 3) := by decide +kernel
theorem dX8_coat_67 : decode cX8_coat 67 = .ok (.aload_n 0, 1) := by decide +kernel
theorem dX8_coat_68 : decode cX8_coat 68 = .ok (.iload_n 1, 1) := by decide +kernel
theorem dX8_coat_69 : decode cX8_coat 69 = .ok (.iload_n 2, 1) := by decide +kernel
theorem dX8_coat_70 : decode cX8_coat 70 = .ok (.iload_n 3, 1) := by decide +kernel
theorem dX8_coat_71 : decode cX8_coat 71 = .ok (.iload 4, 2) := by decide +kernel
theorem dX8_coat_73 : decode cX8_coat 73 = .ok (.invokevirtual 127, 3) := by decide +kernel
theorem dX8_coat_76 : decode cX8_coat 76 = .ok (.ireturn, 1) := by decide +kernel
set_option maxRecDepth 20000 in
theorem ggX8_ofCoat_X8_isCoat : GoodIn wsX8_ofCoat wsX8_isCoat := goodIn_r _ [7, 8, 12, 13, 14, 15, 16, 17, 18, 19, 20, 21, 22, 23, 24, 25, 26, 27, 28, 29, 30, 31, 32, 33, 34, 35, 36, 37, 38, 39, 40, 41, 42, 43, 44, 45, 46] (by decide +kernel) (by decide +kernel)
set_option maxRecDepth 20000 in
theorem gX8_ofCoat_X8_isCoat : GoodIn wsX8_ofCoat (wsV RX8 137 RX8 yX8_isCoat wsX8_isCoat) := goodIn_app (goodIn_of _ (by decide +kernel)) ggX8_ofCoat_X8_isCoat
set_option maxRecDepth 20000 in
theorem ggX8_ofCoat_X8_within : GoodIn wsX8_ofCoat wsX8_within := goodIn_r _ [11] (by decide +kernel) (by decide +kernel)
set_option maxRecDepth 20000 in
theorem gX8_ofCoat_X8_within : GoodIn wsX8_ofCoat (va_wsS RX8 71 yX8_within wsX8_within) := goodIn_app (goodIn_of _ (by decide +kernel)) ggX8_ofCoat_X8_within
theorem dX8_ofCoat_0 : decode cX8_ofCoat 0 = .ok (.aload_n 0, 1) := by decide +kernel
theorem dX8_ofCoat_1 : decode cX8_ofCoat 1 = .ok (.iload_n 1, 1) := by decide +kernel
theorem dX8_ofCoat_2 : decode cX8_ofCoat 2 = .ok (.invokevirtual 137, 3) := by decide +kernel
theorem dX8_ofCoat_5 : decode cX8_ofCoat 5 = .ok (.ifCond .ne 5, 3) := by decide +kernel
theorem dX8_ofCoat_8 : decode cX8_ofCoat 8 = .ok (.iconst (-1), 1) := by decide +kernel
theorem dX8_ofCoat_9 : decode cX8_ofCoat 9 = .ok (.ireturn, 1) := by decide +kernel
theorem dX8_ofCoat_10 : decode cX8_ofCoat 10 = .ok (.iload_n 2, 1) := by decide +kernel
theorem dX8_ofCoat_11 : decode cX8_ofCoat 11 = .ok (.iconst (-1), 1) := by decide +kernel
theorem dX8_ofCoat_12 : decode cX8_ofCoat 12 = .ok (.if_icmp .ne 12, 3) := by decide +kernel
theorem dX8_ofCoat_15 : decode cX8_ofCoat 15 = .ok (.aload_n 0, 1) := by decide +kernel
theorem dX8_ofCoat_16 : decode cX8_ofCoat 16 = .ok (.getfield 38, 3) := by decide +kernel
theorem dX8_ofCoat_19 : decode cX8_ofCoat 19 = .ok (.iload_n 1, 1) := by decide +kernel
theorem dX8_ofCoat_20 : decode cX8_ofCoat 20 = .ok (.iaload, 1) := by decide +kernel
theorem dX8_ofCoat_21 : decode cX8_ofCoat 21 = .ok (.goto 27, 3) := by decide +kernel
theorem dX8_ofCoat_24 : decode cX8_ofCoat 24 = .ok (.iload_n 2, 1) := by decide +kernel
theorem dX8_ofCoat_25 : decode cX8_ofCoat 25 = .ok (.iconst 0, 1) := by decide +kernel
theorem dX8_ofCoat_26 : decode cX8_ofCoat 26 = .ok (.iconst 2, 1) := by decide +kernel
theorem dX8_ofCoat_27 : decode cX8_ofCoat 27 = .ok (.invokestatic 71, 3) := by decide +kernel
theorem dX8_ofCoat_30 : decode cX8_ofCoat 30 = .ok (.ifCond .eq 16, 3) := by decide +kernel
theorem dX8_ofCoat_33 : decode cX8_ofCoat 33 = .ok (.aload_n 0, 1) := by decide +kernel
theorem dX8_ofCoat_34 : decode cX8_ofCoat 34 = .ok (.getfield 41, 3) := by decide +kernel
theorem dX8_ofCoat_37 : decode cX8_ofCoat 37 = .ok (.iconst 3, 1) := by decide +kernel
theorem dX8_ofCoat_38 : decode cX8_ofCoat 38 = .ok (.iload_n 1, 1) := by decide +kernel
theorem dX8_ofCoat_39 : decode cX8_ofCoat 39 = .ok (.imul, 1) := by decide +kernel
theorem dX8_ofCoat_40 : decode cX8_ofCoat 40 = .ok (.iload_n 2, 1) := by decide +kernel
theorem dX8_ofCoat_41 : decode cX8_ofCoat 41 = .ok (.iadd, 1) := by decide +kernel
theorem dX8_ofCoat_42 : decode cX8_ofCoat 42 = .ok (.iaload, 1) := by decide +kernel
theorem dX8_ofCoat_43 : decode cX8_ofCoat 43 = .ok (.goto 5, 3) := by decide +kernel
theorem dX8_ofCoat_46 : decode cX8_ofCoat 46 = .ok (.bipush (-2), 2) := by decide +kernel
theorem dX8_ofCoat_48 : decode cX8_ofCoat 48 = .ok (.ireturn, 1) := by decide +kernel
set_option maxRecDepth 20000 in
theorem ggX8_paint_X8_isCell : GoodIn wsX8_paint wsX8_isCell := goodIn_r _ [8, 9, 10, 11, 7, 12, 13, 14, 20, 21, 22, 23, 24, 25, 26, 27, 28, 29, 30, 31, 32, 33, 34, 35, 36, 37, 38, 39, 40, 41, 42, 43, 44, 45, 46, 47, 48, 49, 50, 51, 52, 53, 54] (by decide +kernel) (by decide +kernel)
set_option maxRecDepth 20000 in
theorem gX8_paint_X8_isCell : GoodIn wsX8_paint (wsV RX8 134 RX8 yX8_isCell wsX8_isCell) := goodIn_app (goodIn_of _ (by decide +kernel)) ggX8_paint_X8_isCell
set_option maxRecDepth 20000 in
theorem ggX8_paint_X8_isCoat : GoodIn wsX8_paint wsX8_isCoat := goodIn_r _ [18, 19, 20, 21, 22, 23, 24, 25, 26, 27, 28, 29, 30, 31, 32, 33, 34, 35, 36, 37, 38, 39, 40, 41, 42, 43, 44, 45, 46, 47, 48, 49, 50, 51, 52, 53, 54] (by decide +kernel) (by decide +kernel)
set_option maxRecDepth 20000 in
theorem gX8_paint_X8_isCoat : GoodIn wsX8_paint (wsV RX8 137 RX8 yX8_isCoat wsX8_isCoat) := goodIn_app (goodIn_of _ (by decide +kernel)) ggX8_paint_X8_isCoat
theorem dX8_paint_0 : decode cX8_paint 0 = .ok (.aload_n 0, 1) := by decide +kernel
theorem dX8_paint_1 : decode cX8_paint 1 = .ok (.iload_n 1, 1) := by decide +kernel
theorem dX8_paint_2 : decode cX8_paint 2 = .ok (.invokevirtual 134, 3) := by decide +kernel
theorem dX8_paint_5 : decode cX8_paint 5 = .ok (.ifCond .eq 11, 3) := by decide +kernel
theorem dX8_paint_8 : decode cX8_paint 8 = .ok (.aload_n 0, 1) := by decide +kernel
theorem dX8_paint_9 : decode cX8_paint 9 = .ok (.iload_n 2, 1) := by decide +kernel
theorem dX8_paint_10 : decode cX8_paint 10 = .ok (.invokevirtual 137, 3) := by decide +kernel
theorem dX8_paint_13 : decode cX8_paint 13 = .ok (.ifCond .ne 5, 3) := by decide +kernel
theorem dX8_paint_16 : decode cX8_paint 16 = .ok (.iconst (-1), 1) := by decide +kernel
theorem dX8_paint_17 : decode cX8_paint 17 = .ok (.ireturn, 1) := by decide +kernel
theorem dX8_paint_18 : decode cX8_paint 18 = .ok (.aload_n 0, 1) := by decide +kernel
theorem dX8_paint_19 : decode cX8_paint 19 = .ok (.getfield 22, 3) := by decide +kernel
theorem dX8_paint_22 : decode cX8_paint 22 = .ok (.iload_n 1, 1) := by decide +kernel
theorem dX8_paint_23 : decode cX8_paint 23 = .ok (.iaload, 1) := by decide +kernel
theorem dX8_paint_24 : decode cX8_paint 24 = .ok (.istore_n 3, 1) := by decide +kernel
theorem dX8_paint_25 : decode cX8_paint 25 = .ok (.aload_n 0, 1) := by decide +kernel
theorem dX8_paint_26 : decode cX8_paint 26 = .ok (.getfield 22, 3) := by decide +kernel
theorem dX8_paint_29 : decode cX8_paint 29 = .ok (.iload_n 1, 1) := by decide +kernel
theorem dX8_paint_30 : decode cX8_paint 30 = .ok (.iload_n 2, 1) := by decide +kernel
theorem dX8_paint_31 : decode cX8_paint 31 = .ok (.iastore, 1) := by decide +kernel
theorem dX8_paint_32 : decode cX8_paint 32 = .ok (.aload_n 0, 1) := by decide +kernel
theorem dX8_paint_33 : decode cX8_paint 33 = .ok (.getfield 25, 3) := by decide +kernel
theorem dX8_paint_36 : decode cX8_paint 36 = .ok (.iload_n 1, 1) := by decide +kernel
theorem dX8_paint_37 : decode cX8_paint 37 = .ok (.iconst 0, 1) := by decide +kernel
theorem dX8_paint_38 : decode cX8_paint 38 = .ok (.iastore, 1) := by decide +kernel
theorem dX8_paint_39 : decode cX8_paint 39 = .ok (.aload_n 0, 1) := by decide +kernel
theorem dX8_paint_40 : decode cX8_paint 40 = .ok (.getfield 28, 3) := by decide +kernel
theorem dX8_paint_43 : decode cX8_paint 43 = .ok (.iload_n 1, 1) := by decide +kernel
theorem dX8_paint_44 : decode cX8_paint 44 = .ok (.iconst 0, 1) := by decide +kernel
theorem dX8_paint_45 : decode cX8_paint 45 = .ok (.iastore, 1) := by decide +kernel
theorem dX8_paint_46 : decode cX8_paint 46 = .ok (.iload_n 3, 1) := by decide +kernel
theorem dX8_paint_47 : decode cX8_paint 47 = .ok (.ireturn, 1) := by decide +kernel
theorem dX8_comes_0 : decode cX8_comes 0 = .ok (.iload 4, 2) := by decide +kernel
theorem dX8_comes_2 : decode cX8_comes 2 = .ok (.iload_n 3, 1) := by decide +kernel
theorem dX8_comes_3 : decode cX8_comes 3 = .ok (.iconst 1, 1) := by decide +kernel
theorem dX8_comes_4 : decode cX8_comes 4 = .ok (.iadd, 1) := by decide +kernel
theorem dX8_comes_5 : decode cX8_comes 5 = .ok (.imul, 1) := by decide +kernel
theorem dX8_comes_6 : decode cX8_comes 6 = .ok (.bipush 10, 2) := by decide +kernel
theorem dX8_comes_8 : decode cX8_comes 8 = .ok (.idiv, 1) := by decide +kernel
theorem dX8_comes_9 : decode cX8_comes 9 = .ok (.iload 5, 2) := by decide +kernel
theorem dX8_comes_11 : decode cX8_comes 11 = .ok (.aload_n 0, 1) := by decide +kernel
theorem dX8_comes_12 : decode cX8_comes 12 = .ok (.getfield 115, 3) := by decide +kernel
theorem dX8_comes_15 : decode cX8_comes 15 = .ok (.imul, 1) := by decide +kernel
theorem dX8_comes_16 : decode cX8_comes 16 = .ok (.iconst 5, 1) := by decide +kernel
theorem dX8_comes_17 : decode cX8_comes 17 = .ok (.idiv, 1) := by decide +kernel
theorem dX8_comes_18 : decode cX8_comes 18 = .ok (.iadd, 1) := by decide +kernel
theorem dX8_comes_19 : decode cX8_comes 19 = .ok (.istore 7, 2) := by decide +kernel
theorem dX8_comes_21 : decode cX8_comes 21 = .ok (.iload_n 1, 1) := by decide +kernel
theorem dX8_comes_22 : decode cX8_comes 22 = .ok (.iconst 2, 1) := by decide +kernel
theorem dX8_comes_23 : decode cX8_comes 23 = .ok (.if_icmp .ne 10, 3) := by decide +kernel
theorem dX8_comes_26 : decode cX8_comes 26 = .ok (.iload 7, 2) := by decide +kernel
theorem dX8_comes_28 : decode cX8_comes 28 = .ok (.iconst 2, 1) := by decide +kernel
theorem dX8_comes_29 : decode cX8_comes 29 = .ok (.idiv, 1) := by decide +kernel
theorem dX8_comes_30 : decode cX8_comes 30 = .ok (.goto 5, 3) := by decide +kernel
theorem dX8_comes_33 : decode cX8_comes 33 = .ok (.iload 7, 2) := by decide +kernel
theorem dX8_comes_35 : decode cX8_comes 35 = .ok (.istore 7, 2) := by decide +kernel
theorem dX8_comes_37 : decode cX8_comes 37 = .ok (.iload_n 2, 1) := by decide +kernel
theorem dX8_comes_38 : decode cX8_comes 38 = .ok (.iload 7, 2) := by decide +kernel
theorem dX8_comes_40 : decode cX8_comes 40 = .ok (.if_icmp .ge 7, 3) := by decide +kernel
theorem dX8_comes_43 : decode cX8_comes 43 = .ok (.iconst 0, 1) := by decide +kernel
theorem dX8_comes_44 : decode cX8_comes 44 = .ok (.goto 7, 3) := by decide +kernel
theorem dX8_comes_47 : decode cX8_comes 47 = .ok (.iload_n 2, 1) := by decide +kernel
theorem dX8_comes_48 : decode cX8_comes 48 = .ok (.iload 7, 2) := by decide +kernel
theorem dX8_comes_50 : decode cX8_comes 50 = .ok (.isub, 1) := by decide +kernel
theorem dX8_comes_51 : decode cX8_comes 51 = .ok (.istore 8, 2) := by decide +kernel
theorem dX8_comes_53 : decode cX8_comes 53 = .ok (.iload_n 1, 1) := by decide +kernel
theorem dX8_comes_54 : decode cX8_comes 54 = .ok (.ifCond .le 15, 3) := by decide +kernel
theorem dX8_comes_57 : decode cX8_comes 57 = .ok (.iload 6, 2) := by decide +kernel
theorem dX8_comes_59 : decode cX8_comes 59 = .ok (.ifCond .eq 10, 3) := by decide +kernel
theorem dX8_comes_62 : decode cX8_comes 62 = .ok (.iload 8, 2) := by decide +kernel
theorem dX8_comes_64 : decode cX8_comes 64 = .ok (.iconst 5, 1) := by decide +kernel
theorem dX8_comes_65 : decode cX8_comes 65 = .ok (.iadd, 1) := by decide +kernel
theorem dX8_comes_66 : decode cX8_comes 66 = .ok (.goto 5, 3) := by decide +kernel
theorem dX8_comes_69 : decode cX8_comes 69 = .ok (.iload 8, 2) := by decide +kernel
theorem dX8_comes_71 : decode cX8_comes 71 = .ok (.ireturn, 1) := by decide +kernel
set_option maxRecDepth 20000 in
theorem ggX8_comesOf_X8_comes : GoodIn wsX8_comesOf wsX8_comes := goodIn_r _ [7, 8, 9, 10, 11, 12, 13, 14, 15, 16, 17, 18, 19, 20, 21, 22, 23, 24, 25, 26, 27, 28, 29, 30, 31, 32, 33, 34, 35, 36, 37, 38, 39, 40, 41, 42, 43] (by decide +kernel) (by decide +kernel)
set_option maxRecDepth 20000 in
theorem gX8_comesOf_X8_comes : GoodIn wsX8_comesOf (wsV RX8 140 RX8 yX8_comes wsX8_comes) := goodIn_app (goodIn_of _ (by decide +kernel)) ggX8_comesOf_X8_comes
theorem dX8_comesOf_0 : decode cX8_comesOf 0 = .ok (.aload_n 0, 1) := by decide +kernel
theorem dX8_comesOf_1 : decode cX8_comesOf 1 = .ok (.aload_n 0, 1) := by decide +kernel
theorem dX8_comesOf_2 : decode cX8_comesOf 2 = .ok (.getfield 38, 3) := by decide +kernel
theorem dX8_comesOf_5 : decode cX8_comesOf 5 = .ok (.iload_n 1, 1) := by decide +kernel
theorem dX8_comesOf_6 : decode cX8_comesOf 6 = .ok (.iaload, 1) := by decide +kernel
theorem dX8_comesOf_7 : decode cX8_comesOf 7 = .ok (.aload_n 0, 1) := by decide +kernel
theorem dX8_comesOf_8 : decode cX8_comesOf 8 = .ok (.getfield 41, 3) := by decide +kernel
theorem dX8_comesOf_11 : decode cX8_comesOf 11 = .ok (.iconst 3, 1) := by decide +kernel
theorem dX8_comesOf_12 : decode cX8_comesOf 12 = .ok (.iload_n 1, 1) := by decide +kernel
theorem dX8_comesOf_13 : decode cX8_comesOf 13 = .ok (.imul, 1) := by decide +kernel
theorem dX8_comesOf_14 : decode cX8_comesOf 14 = .ok (.iload_n 2, 1) := by decide +kernel
theorem dX8_comesOf_15 : decode cX8_comesOf 15 = .ok (.iadd, 1) := by decide +kernel
theorem dX8_comesOf_16 : decode cX8_comesOf 16 = .ok (.iaload, 1) := by decide +kernel
theorem dX8_comesOf_17 : decode cX8_comesOf 17 = .ok (.iload_n 2, 1) := by decide +kernel
theorem dX8_comesOf_18 : decode cX8_comesOf 18 = .ok (.iload_n 3, 1) := by decide +kernel
theorem dX8_comesOf_19 : decode cX8_comesOf 19 = .ok (.iload 4, 2) := by decide +kernel
theorem dX8_comesOf_21 : decode cX8_comesOf 21 = .ok (.iload 5, 2) := by decide +kernel
theorem dX8_comesOf_23 : decode cX8_comesOf 23 = .ok (.invokevirtual 140, 3) := by decide +kernel
theorem dX8_comesOf_26 : decode cX8_comesOf 26 = .ok (.ireturn, 1) := by decide +kernel
set_option maxRecDepth 20000 in
theorem ggX8_back_X8_isCell : GoodIn wsX8_back wsX8_isCell := goodIn_r _ [8, 9, 10, 11, 7, 12, 13, 14, 29, 30, 31, 32, 33, 34, 35, 36, 37, 38, 39, 40, 41, 42, 43, 44, 45, 46, 47, 48, 49, 50, 51, 52, 53, 54, 55, 56, 57, 58, 59, 60, 61, 62, 63] (by decide +kernel) (by decide +kernel)
set_option maxRecDepth 20000 in
theorem gX8_back_X8_isCell : GoodIn wsX8_back (wsV RX8 134 RX8 yX8_isCell wsX8_isCell) := goodIn_app (goodIn_of _ (by decide +kernel)) ggX8_back_X8_isCell
set_option maxRecDepth 20000 in
theorem ggX8_back_X8_within : GoodIn wsX8_back wsX8_within := goodIn_r _ [17] (by decide +kernel) (by decide +kernel)
set_option maxRecDepth 20000 in
theorem gX8_back_X8_within : GoodIn wsX8_back (va_wsS RX8 71 yX8_within wsX8_within) := goodIn_app (goodIn_of _ (by decide +kernel)) ggX8_back_X8_within
set_option maxRecDepth 20000 in
theorem ggX8_back_X8_comesOf : GoodIn wsX8_back wsX8_comesOf := goodIn_r _ [21, 22, 23, 24, 25, 26, 7, 27, 28, 29, 30, 31, 32, 33, 34, 35, 36, 37, 38, 39, 40, 41, 42, 43, 44, 45, 46, 47, 48, 49, 50, 51, 52, 53, 54, 55, 56, 57, 58, 59, 60, 61, 62, 63] (by decide +kernel) (by decide +kernel)
set_option maxRecDepth 20000 in
theorem gX8_back_X8_comesOf : GoodIn wsX8_back (wsV RX8 144 RX8 yX8_comesOf wsX8_comesOf) := goodIn_app (goodIn_of _ (by decide +kernel)) ggX8_back_X8_comesOf
theorem dX8_back_0 : decode cX8_back 0 = .ok (.aload_n 0, 1) := by decide +kernel
theorem dX8_back_1 : decode cX8_back 1 = .ok (.iload_n 1, 1) := by decide +kernel
theorem dX8_back_2 : decode cX8_back 2 = .ok (.invokevirtual 134, 3) := by decide +kernel
theorem dX8_back_5 : decode cX8_back 5 = .ok (.ifCond .ne 5, 3) := by decide +kernel
theorem dX8_back_8 : decode cX8_back 8 = .ok (.iconst (-1), 1) := by decide +kernel
theorem dX8_back_9 : decode cX8_back 9 = .ok (.ireturn, 1) := by decide +kernel
theorem dX8_back_10 : decode cX8_back 10 = .ok (.iload_n 2, 1) := by decide +kernel
theorem dX8_back_11 : decode cX8_back 11 = .ok (.iconst 0, 1) := by decide +kernel
theorem dX8_back_12 : decode cX8_back 12 = .ok (.iconst 2, 1) := by decide +kernel
theorem dX8_back_13 : decode cX8_back 13 = .ok (.invokestatic 71, 3) := by decide +kernel
theorem dX8_back_16 : decode cX8_back 16 = .ok (.ifCond .eq 30, 3) := by decide +kernel
theorem dX8_back_19 : decode cX8_back 19 = .ok (.aload_n 0, 1) := by decide +kernel
theorem dX8_back_20 : decode cX8_back 20 = .ok (.aload_n 0, 1) := by decide +kernel
theorem dX8_back_21 : decode cX8_back 21 = .ok (.getfield 22, 3) := by decide +kernel
theorem dX8_back_24 : decode cX8_back 24 = .ok (.iload_n 1, 1) := by decide +kernel
theorem dX8_back_25 : decode cX8_back 25 = .ok (.iaload, 1) := by decide +kernel
theorem dX8_back_26 : decode cX8_back 26 = .ok (.iload_n 2, 1) := by decide +kernel
theorem dX8_back_27 : decode cX8_back 27 = .ok (.aload_n 0, 1) := by decide +kernel
theorem dX8_back_28 : decode cX8_back 28 = .ok (.getfield 25, 3) := by decide +kernel
theorem dX8_back_31 : decode cX8_back 31 = .ok (.iload_n 1, 1) := by decide +kernel
theorem dX8_back_32 : decode cX8_back 32 = .ok (.iaload, 1) := by decide +kernel
theorem dX8_back_33 : decode cX8_back 33 = .ok (.aload_n 0, 1) := by decide +kernel
theorem dX8_back_34 : decode cX8_back 34 = .ok (.getfield 28, 3) := by decide +kernel
theorem dX8_back_37 : decode cX8_back 37 = .ok (.iload_n 1, 1) := by decide +kernel
theorem dX8_back_38 : decode cX8_back 38 = .ok (.iaload, 1) := by decide +kernel
theorem dX8_back_39 : decode cX8_back 39 = .ok (.iload_n 3, 1) := by decide +kernel
theorem dX8_back_40 : decode cX8_back 40 = .ok (.invokevirtual 144, 3) := by decide +kernel
theorem dX8_back_43 : decode cX8_back 43 = .ok (.goto 5, 3) := by decide +kernel
theorem dX8_back_46 : decode cX8_back 46 = .ok (.bipush (-2), 2) := by decide +kernel
theorem dX8_back_48 : decode cX8_back 48 = .ok (.ireturn, 1) := by decide +kernel
set_option maxRecDepth 20000 in
theorem ggX8_light_X8_within : GoodIn wsX8_light wsX8_within := goodIn_r _ [6] (by decide +kernel) (by decide +kernel)
set_option maxRecDepth 20000 in
theorem gX8_light_X8_within : GoodIn wsX8_light (va_wsS RX8 71 yX8_within wsX8_within) := goodIn_app (goodIn_of _ (by decide +kernel)) ggX8_light_X8_within
set_option maxRecDepth 20000 in
theorem ggX8_light_X8_all : GoodIn wsX8_light wsX8_all := goodIn_r _ [10, 11, 12, 13, 14, 15, 16, 17, 18, 19, 20, 21, 22, 23, 24, 25, 26, 27, 28, 29, 30, 31, 32, 33, 34, 35, 36, 37, 38, 39, 40, 41, 42, 43, 44, 45, 46, 47] (by decide +kernel) (by decide +kernel)
set_option maxRecDepth 20000 in
theorem gX8_light_X8_all : GoodIn wsX8_light (wsV RX8 81 RX8 yX8_all wsX8_all) := goodIn_app (goodIn_of _ (by decide +kernel)) ggX8_light_X8_all
theorem dX8_light_0 : decode cX8_light 0 = .ok (.iload_n 1, 1) := by decide +kernel
theorem dX8_light_1 : decode cX8_light 1 = .ok (.iconst 0, 1) := by decide +kernel
theorem dX8_light_2 : decode cX8_light 2 = .ok (.bipush 9, 2) := by decide +kernel
theorem dX8_light_4 : decode cX8_light 4 = .ok (.invokestatic 71, 3) := by decide +kernel
theorem dX8_light_7 : decode cX8_light 7 = .ok (.ifCond .eq 23, 3) := by decide +kernel
theorem dX8_light_10 : decode cX8_light 10 = .ok (.iload_n 2, 1) := by decide +kernel
theorem dX8_light_11 : decode cX8_light 11 = .ok (.iconst 0, 1) := by decide +kernel
theorem dX8_light_12 : decode cX8_light 12 = .ok (.bipush 9, 2) := by decide +kernel
theorem dX8_light_14 : decode cX8_light 14 = .ok (.invokestatic 71, 3) := by decide +kernel
theorem dX8_light_17 : decode cX8_light 17 = .ok (.ifCond .eq 13, 3) := by decide +kernel
theorem dX8_light_20 : decode cX8_light 20 = .ok (.iload_n 3, 1) := by decide +kernel
theorem dX8_light_21 : decode cX8_light 21 = .ok (.iconst 0, 1) := by decide +kernel
theorem dX8_light_22 : decode cX8_light 22 = .ok (.bipush 9, 2) := by decide +kernel
theorem dX8_light_24 : decode cX8_light 24 = .ok (.invokestatic 71, 3) := by decide +kernel
theorem dX8_light_27 : decode cX8_light 27 = .ok (.ifCond .ne 6, 3) := by decide +kernel
theorem dX8_light_30 : decode cX8_light 30 = .ok (.bipush (-2), 2) := by decide +kernel
theorem dX8_light_32 : decode cX8_light 32 = .ok (.ireturn, 1) := by decide +kernel
theorem dX8_light_33 : decode cX8_light 33 = .ok (.aload_n 0, 1) := by decide +kernel
theorem dX8_light_34 : decode cX8_light 34 = .ok (.invokevirtual 81, 3) := by decide +kernel
theorem dX8_light_37 : decode cX8_light 37 = .ok (.ifCond .ne 6, 3) := by decide +kernel
theorem dX8_light_40 : decode cX8_light 40 = .ok (.bipush (-3), 2) := by decide +kernel
theorem dX8_light_42 : decode cX8_light 42 = .ok (.ireturn, 1) := by decide +kernel
theorem dX8_light_43 : decode cX8_light 43 = .ok (.aload_n 0, 1) := by decide +kernel
theorem dX8_light_44 : decode cX8_light 44 = .ok (.getfield 121, 3) := by decide +kernel
theorem dX8_light_47 : decode cX8_light 47 = .ok (.iconst 4, 1) := by decide +kernel
theorem dX8_light_48 : decode cX8_light 48 = .ok (.if_icmp .ne 6, 3) := by decide +kernel
theorem dX8_light_51 : decode cX8_light 51 = .ok (.bipush (-4), 2) := by decide +kernel
theorem dX8_light_53 : decode cX8_light 53 = .ok (.ireturn, 1) := by decide +kernel
theorem dX8_light_54 : decode cX8_light 54 = .ok (.aload_n 0, 1) := by decide +kernel
theorem dX8_light_55 : decode cX8_light 55 = .ok (.getfield 44, 3) := by decide +kernel
theorem dX8_light_58 : decode cX8_light 58 = .ok (.iconst 3, 1) := by decide +kernel
theorem dX8_light_59 : decode cX8_light 59 = .ok (.aload_n 0, 1) := by decide +kernel
theorem dX8_light_60 : decode cX8_light 60 = .ok (.getfield 121, 3) := by decide +kernel
theorem dX8_light_63 : decode cX8_light 63 = .ok (.imul, 1) := by decide +kernel
theorem dX8_light_64 : decode cX8_light 64 = .ok (.iload_n 1, 1) := by decide +kernel
theorem dX8_light_65 : decode cX8_light 65 = .ok (.iastore, 1) := by decide +kernel
theorem dX8_light_66 : decode cX8_light 66 = .ok (.aload_n 0, 1) := by decide +kernel
theorem dX8_light_67 : decode cX8_light 67 = .ok (.getfield 44, 3) := by decide +kernel
theorem dX8_light_70 : decode cX8_light 70 = .ok (.iconst 3, 1) := by decide +kernel
theorem dX8_light_71 : decode cX8_light 71 = .ok (.aload_n 0, 1) := by decide +kernel
theorem dX8_light_72 : decode cX8_light 72 = .ok (.getfield 121, 3) := by decide +kernel
theorem dX8_light_75 : decode cX8_light 75 = .ok (.imul, 1) := by decide +kernel
theorem dX8_light_76 : decode cX8_light 76 = .ok (.iconst 1, 1) := by decide +kernel
theorem dX8_light_77 : decode cX8_light 77 = .ok (.iadd, 1) := by decide +kernel
theorem dX8_light_78 : decode cX8_light 78 = .ok (.iload_n 2, 1) := by decide +kernel
theorem dX8_light_79 : decode cX8_light 79 = .ok (.iastore, 1) := by decide +kernel
theorem dX8_light_80 : decode cX8_light 80 = .ok (.aload_n 0, 1) := by decide +kernel
theorem dX8_light_81 : decode cX8_light 81 = .ok (.getfield 44, 3) := by decide +kernel
theorem dX8_light_84 : decode cX8_light 84 = .ok (.iconst 3, 1) := by decide +kernel
theorem dX8_light_85 : decode cX8_light 85 = .ok (.aload_n 0, 1) := by decide +kernel
theorem dX8_light_86 : decode cX8_light 86 = .ok (.getfield 121, 3) := by decide +kernel
theorem dX8_light_89 : decode cX8_light 89 = .ok (.imul, 1) := by decide +kernel
theorem dX8_light_90 : decode cX8_light 90 = .ok (.iconst 2, 1) := by decide +kernel
theorem dX8_light_91 : decode cX8_light 91 = .ok (.iadd, 1) := by decide +kernel
theorem dX8_light_92 : decode cX8_light 92 = .ok (.iload_n 3, 1) := by decide +kernel
theorem dX8_light_93 : decode cX8_light 93 = .ok (.iastore, 1) := by decide +kernel
theorem dX8_light_94 : decode cX8_light 94 = .ok (.aload_n 0, 1) := by decide +kernel
theorem dX8_light_95 : decode cX8_light 95 = .ok (.dup, 1) := by decide +kernel
theorem dX8_light_96 : decode cX8_light 96 = .ok (.getfield 121, 3) := by decide +kernel
theorem dX8_light_99 : decode cX8_light 99 = .ok (.iconst 1, 1) := by decide +kernel
theorem dX8_light_100 : decode cX8_light 100 = .ok (.iadd, 1) := by decide +kernel
theorem dX8_light_101 : decode cX8_light 101 = .ok (.putfield 121, 3) := by decide +kernel
theorem dX8_light_104 : decode cX8_light 104 = .ok (.aload_n 0, 1) := by decide +kernel
theorem dX8_light_105 : decode cX8_light 105 = .ok (.getfield 121, 3) := by decide +kernel
theorem dX8_light_108 : decode cX8_light 108 = .ok (.iconst 1, 1) := by decide +kernel
theorem dX8_light_109 : decode cX8_light 109 = .ok (.isub, 1) := by decide +kernel
theorem dX8_light_110 : decode cX8_light 110 = .ok (.ireturn, 1) := by decide +kernel
set_option maxRecDepth 20000 in
theorem ggX8_lookOf_X8_comesOf : GoodIn wsX8_lookOf wsX8_comesOf := goodIn_r _ [6, 7, 8, 9, 10, 11, 5, 12, 13, 14, 15, 16, 17, 18, 19, 20, 21, 22, 23, 24, 25, 26, 27, 28, 29, 30, 31, 32, 33, 34, 35, 36, 37, 38, 39, 40, 41, 42, 43, 44, 45, 46, 47, 48] (by decide +kernel) (by decide +kernel)
set_option maxRecDepth 20000 in
theorem gX8_lookOf_X8_comesOf : GoodIn wsX8_lookOf (wsV RX8 144 RX8 yX8_comesOf wsX8_comesOf) := goodIn_app (goodIn_of _ (by decide +kernel)) ggX8_lookOf_X8_comesOf
theorem dX8_lookOf_0 : decode cX8_lookOf 0 = .ok (.iconst 0, 1) := by decide +kernel
theorem dX8_lookOf_1 : decode cX8_lookOf 1 = .ok (.istore 6, 2) := by decide +kernel
theorem dX8_lookOf_3 : decode cX8_lookOf 3 = .ok (.iconst 0, 1) := by decide +kernel
theorem dX8_lookOf_4 : decode cX8_lookOf 4 = .ok (.istore 7, 2) := by decide +kernel
theorem dX8_lookOf_6 : decode cX8_lookOf 6 = .ok (.iload 7, 2) := by decide +kernel
theorem dX8_lookOf_8 : decode cX8_lookOf 8 = .ok (.iconst 3, 1) := by decide +kernel
theorem dX8_lookOf_9 : decode cX8_lookOf 9 = .ok (.if_icmp .ge 38, 3) := by decide +kernel
theorem dX8_lookOf_12 : decode cX8_lookOf 12 = .ok (.iload 6, 2) := by decide +kernel
theorem dX8_lookOf_14 : decode cX8_lookOf 14 = .ok (.aload_n 0, 1) := by decide +kernel
theorem dX8_lookOf_15 : decode cX8_lookOf 15 = .ok (.iload_n 1, 1) := by decide +kernel
theorem dX8_lookOf_16 : decode cX8_lookOf 16 = .ok (.iload 7, 2) := by decide +kernel
theorem dX8_lookOf_18 : decode cX8_lookOf 18 = .ok (.iload_n 2, 1) := by decide +kernel
theorem dX8_lookOf_19 : decode cX8_lookOf 19 = .ok (.iload_n 3, 1) := by decide +kernel
theorem dX8_lookOf_20 : decode cX8_lookOf 20 = .ok (.iload 5, 2) := by decide +kernel
theorem dX8_lookOf_22 : decode cX8_lookOf 22 = .ok (.invokevirtual 144, 3) := by decide +kernel
theorem dX8_lookOf_25 : decode cX8_lookOf 25 = .ok (.aload_n 0, 1) := by decide +kernel
theorem dX8_lookOf_26 : decode cX8_lookOf 26 = .ok (.getfield 44, 3) := by decide +kernel
theorem dX8_lookOf_29 : decode cX8_lookOf 29 = .ok (.iconst 3, 1) := by decide +kernel
theorem dX8_lookOf_30 : decode cX8_lookOf 30 = .ok (.iload 4, 2) := by decide +kernel
theorem dX8_lookOf_32 : decode cX8_lookOf 32 = .ok (.imul, 1) := by decide +kernel
theorem dX8_lookOf_33 : decode cX8_lookOf 33 = .ok (.iload 7, 2) := by decide +kernel
theorem dX8_lookOf_35 : decode cX8_lookOf 35 = .ok (.iadd, 1) := by decide +kernel
theorem dX8_lookOf_36 : decode cX8_lookOf 36 = .ok (.iaload, 1) := by decide +kernel
theorem dX8_lookOf_37 : decode cX8_lookOf 37 = .ok (.imul, 1) := by decide +kernel
theorem dX8_lookOf_38 : decode cX8_lookOf 38 = .ok (.iadd, 1) := by decide +kernel
theorem dX8_lookOf_39 : decode cX8_lookOf 39 = .ok (.istore 6, 2) := by decide +kernel
theorem dX8_lookOf_41 : decode cX8_lookOf 41 = .ok (.iinc 7 1, 3) := by decide +kernel
theorem dX8_lookOf_44 : decode cX8_lookOf 44 = .ok (.goto (-38), 3) := by decide +kernel
theorem dX8_lookOf_47 : decode cX8_lookOf 47 = .ok (.iload 6, 2) := by decide +kernel
theorem dX8_lookOf_49 : decode cX8_lookOf 49 = .ok (.ireturn, 1) := by decide +kernel
set_option maxRecDepth 20000 in
theorem ggX8_lookNow_X8_lookOf : GoodIn wsX8_lookNow wsX8_lookOf := goodIn_r _ [8, 9, 10, 11, 12, 7, 13, 14, 15, 16, 17, 18, 19, 20, 21, 22, 23, 24, 25, 26, 27, 28, 29, 30, 31, 32, 33, 34, 35, 36, 37, 38, 39, 40, 41, 42, 43, 44, 45, 46, 47, 48, 49, 50, 51, 52, 53, 54, 55] (by decide +kernel) (by decide +kernel)
set_option maxRecDepth 20000 in
theorem gX8_lookNow_X8_lookOf : GoodIn wsX8_lookNow (wsV RX8 148 RX8 yX8_lookOf wsX8_lookOf) := goodIn_app (goodIn_of _ (by decide +kernel)) ggX8_lookNow_X8_lookOf
theorem dX8_lookNow_0 : decode cX8_lookNow 0 = .ok (.aload_n 0, 1) := by decide +kernel
theorem dX8_lookNow_1 : decode cX8_lookNow 1 = .ok (.aload_n 0, 1) := by decide +kernel
theorem dX8_lookNow_2 : decode cX8_lookNow 2 = .ok (.getfield 22, 3) := by decide +kernel
theorem dX8_lookNow_5 : decode cX8_lookNow 5 = .ok (.iload_n 1, 1) := by decide +kernel
theorem dX8_lookNow_6 : decode cX8_lookNow 6 = .ok (.iaload, 1) := by decide +kernel
theorem dX8_lookNow_7 : decode cX8_lookNow 7 = .ok (.aload_n 0, 1) := by decide +kernel
theorem dX8_lookNow_8 : decode cX8_lookNow 8 = .ok (.getfield 25, 3) := by decide +kernel
theorem dX8_lookNow_11 : decode cX8_lookNow 11 = .ok (.iload_n 1, 1) := by decide +kernel
theorem dX8_lookNow_12 : decode cX8_lookNow 12 = .ok (.iaload, 1) := by decide +kernel
theorem dX8_lookNow_13 : decode cX8_lookNow 13 = .ok (.aload_n 0, 1) := by decide +kernel
theorem dX8_lookNow_14 : decode cX8_lookNow 14 = .ok (.getfield 28, 3) := by decide +kernel
theorem dX8_lookNow_17 : decode cX8_lookNow 17 = .ok (.iload_n 1, 1) := by decide +kernel
theorem dX8_lookNow_18 : decode cX8_lookNow 18 = .ok (.iaload, 1) := by decide +kernel
theorem dX8_lookNow_19 : decode cX8_lookNow 19 = .ok (.iload_n 2, 1) := by decide +kernel
theorem dX8_lookNow_20 : decode cX8_lookNow 20 = .ok (.iload_n 3, 1) := by decide +kernel
theorem dX8_lookNow_21 : decode cX8_lookNow 21 = .ok (.invokevirtual 148, 3) := by decide +kernel
theorem dX8_lookNow_24 : decode cX8_lookNow 24 = .ok (.ireturn, 1) := by decide +kernel
set_option maxRecDepth 20000 in
theorem ggX8_look_X8_isCell : GoodIn wsX8_look wsX8_isCell := goodIn_r _ [5, 6, 7, 8, 4, 9, 10, 11, 40, 41, 42, 43, 44, 45, 46, 47, 48, 49, 50, 51, 52, 53, 54, 55, 56, 57, 58, 59, 60, 61, 62, 63, 64, 65, 66, 67, 68, 69, 70, 71, 72, 73, 74] (by decide +kernel) (by decide +kernel)
set_option maxRecDepth 20000 in
theorem gX8_look_X8_isCell : GoodIn wsX8_look (wsV RX8 134 RX8 yX8_isCell wsX8_isCell) := goodIn_app (goodIn_of _ (by decide +kernel)) ggX8_look_X8_isCell
set_option maxRecDepth 20000 in
theorem ggX8_look_X8_isLight : GoodIn wsX8_look wsX8_isLight := goodIn_r _ [15, 16, 40, 41, 42, 43, 44, 45, 46, 47, 48, 49, 50, 51, 52, 53, 54, 55, 56, 57, 58, 59, 60, 61, 62, 63, 64, 65, 66, 67, 68, 69, 70, 71, 72, 73, 74] (by decide +kernel) (by decide +kernel)
set_option maxRecDepth 20000 in
theorem gX8_look_X8_isLight : GoodIn wsX8_look (wsV RX8 151 RX8 yX8_isLight wsX8_isLight) := goodIn_app (goodIn_of _ (by decide +kernel)) ggX8_look_X8_isLight
set_option maxRecDepth 20000 in
theorem ggX8_look_X8_lookNow : GoodIn wsX8_look wsX8_lookNow := goodIn_r _ [20, 21, 22, 23, 24, 25, 26, 4, 27, 28, 29, 30, 31, 32, 33, 34, 35, 36, 37, 38, 39, 40, 41, 42, 43, 44, 45, 46, 47, 48, 49, 50, 51, 52, 53, 54, 55, 56, 57, 58, 59, 60, 61, 62, 63, 64, 65, 66, 67, 68, 69, 70, 71, 72, 73, 74] (by decide +kernel) (by decide +kernel)
set_option maxRecDepth 20000 in
theorem gX8_look_X8_lookNow : GoodIn wsX8_look (wsV RX8 154 RX8 yX8_lookNow wsX8_lookNow) := goodIn_app (goodIn_of _ (by decide +kernel)) ggX8_look_X8_lookNow
theorem dX8_look_0 : decode cX8_look 0 = .ok (.aload_n 0, 1) := by decide +kernel
theorem dX8_look_1 : decode cX8_look 1 = .ok (.iload_n 1, 1) := by decide +kernel
theorem dX8_look_2 : decode cX8_look 2 = .ok (.invokevirtual 134, 3) := by decide +kernel
theorem dX8_look_5 : decode cX8_look 5 = .ok (.ifCond .eq 21, 3) := by decide +kernel
theorem dX8_look_8 : decode cX8_look 8 = .ok (.aload_n 0, 1) := by decide +kernel
theorem dX8_look_9 : decode cX8_look 9 = .ok (.iload_n 2, 1) := by decide +kernel
theorem dX8_look_10 : decode cX8_look 10 = .ok (.invokevirtual 151, 3) := by decide +kernel
theorem dX8_look_13 : decode cX8_look 13 = .ok (.ifCond .eq 13, 3) := by decide +kernel
theorem dX8_look_16 : decode cX8_look 16 = .ok (.aload_n 0, 1) := by decide +kernel
theorem dX8_look_17 : decode cX8_look 17 = .ok (.iload_n 1, 1) := by decide +kernel
theorem dX8_look_18 : decode cX8_look 18 = .ok (.iload_n 2, 1) := by decide +kernel
theorem dX8_look_19 : decode cX8_look 19 = .ok (.iload_n 3, 1) := by decide +kernel
theorem dX8_look_20 : decode cX8_look 20 = .ok (.invokevirtual 154, 3) := by decide +kernel
theorem dX8_look_23 : decode cX8_look 23 = .ok (.goto 4, 3) := by decide +kernel
theorem dX8_look_26 : decode cX8_look 26 = .ok (.iconst (-1), 1) := by decide +kernel
theorem dX8_look_27 : decode cX8_look 27 = .ok (.ireturn, 1) := by decide +kernel
theorem dX8_size_0 : decode cX8_size 0 = .ok (.iload_n 0, 1) := by decide +kernel
theorem dX8_size_1 : decode cX8_size 1 = .ok (.ifCond .ge 8, 3) := by decide +kernel
theorem dX8_size_4 : decode cX8_size 4 = .ok (.iload_n 0, 1) := by decide +kernel
theorem dX8_size_5 : decode cX8_size 5 = .ok (.ineg, 1) := by decide +kernel
theorem dX8_size_6 : decode cX8_size 6 = .ok (.goto 4, 3) := by decide +kernel
theorem dX8_size_9 : decode cX8_size 9 = .ok (.iload_n 0, 1) := by decide +kernel
theorem dX8_size_10 : decode cX8_size 10 = .ok (.ireturn, 1) := by decide +kernel
set_option maxRecDepth 20000 in
theorem ggX8_unlike_X8_isCell : GoodIn wsX8_unlike wsX8_isCell := goodIn_r _ [5, 6, 7, 8, 4, 9, 10, 11, 43, 44, 45, 46, 47, 48, 49, 50, 51, 52, 53, 54, 55, 56, 57, 58, 59, 60, 61, 62, 63, 64, 65, 66, 67, 68, 69, 70, 71, 72, 73, 74, 75, 76, 77] (by decide +kernel) (by decide +kernel)
set_option maxRecDepth 20000 in
theorem gX8_unlike_X8_isCell : GoodIn wsX8_unlike (wsV RX8 134 RX8 yX8_isCell wsX8_isCell) := goodIn_app (goodIn_of _ (by decide +kernel)) ggX8_unlike_X8_isCell
set_option maxRecDepth 20000 in
theorem ggX8_unlike_X8_isLight : GoodIn wsX8_unlike wsX8_isLight := goodIn_r _ [15, 16, 43, 44, 45, 46, 47, 48, 49, 50, 51, 52, 53, 54, 55, 56, 57, 58, 59, 60, 61, 62, 63, 64, 65, 66, 67, 68, 69, 70, 71, 72, 73, 74, 75, 76, 77] (by decide +kernel) (by decide +kernel)
set_option maxRecDepth 20000 in
theorem gX8_unlike_X8_isLight : GoodIn wsX8_unlike (wsV RX8 151 RX8 yX8_isLight wsX8_isLight) := goodIn_app (goodIn_of _ (by decide +kernel)) ggX8_unlike_X8_isLight
set_option maxRecDepth 20000 in
theorem ggX8_unlike_X8_lookNow : GoodIn wsX8_unlike wsX8_lookNow := goodIn_r _ [20, 21, 22, 23, 24, 25, 26, 4, 27, 28, 29, 30, 31, 32, 33, 34, 35, 36, 37, 38, 39, 43, 44, 45, 46, 47, 48, 49, 50, 51, 52, 53, 54, 55, 56, 57, 58, 59, 60, 61, 62, 63, 64, 65, 66, 67, 68, 69, 70, 71, 72, 73, 74, 75, 76, 77] (by decide +kernel) (by decide +kernel)
set_option maxRecDepth 20000 in
theorem gX8_unlike_X8_lookNow : GoodIn wsX8_unlike (wsV RX8 154 RX8 yX8_lookNow wsX8_lookNow) := goodIn_app (goodIn_of _ (by decide +kernel)) ggX8_unlike_X8_lookNow
set_option maxRecDepth 20000 in
theorem ggX8_unlike_X8_size : GoodIn wsX8_unlike wsX8_size := goodIn_r _ [42] (by decide +kernel) (by decide +kernel)
set_option maxRecDepth 20000 in
theorem gX8_unlike_X8_size : GoodIn wsX8_unlike (va_wsS RX8 158 yX8_size wsX8_size) := goodIn_app (goodIn_of _ (by decide +kernel)) ggX8_unlike_X8_size
theorem dX8_unlike_0 : decode cX8_unlike 0 = .ok (.aload_n 0, 1) := by decide +kernel
theorem dX8_unlike_1 : decode cX8_unlike 1 = .ok (.iload_n 1, 1) := by decide +kernel
theorem dX8_unlike_2 : decode cX8_unlike 2 = .ok (.invokevirtual 134, 3) := by decide +kernel
theorem dX8_unlike_5 : decode cX8_unlike 5 = .ok (.ifCond .eq 19, 3) := by decide +kernel
theorem dX8_unlike_8 : decode cX8_unlike 8 = .ok (.aload_n 0, 1) := by decide +kernel
theorem dX8_unlike_9 : decode cX8_unlike 9 = .ok (.iload_n 2, 1) := by decide +kernel
theorem dX8_unlike_10 : decode cX8_unlike 10 = .ok (.invokevirtual 134, 3) := by decide +kernel
theorem dX8_unlike_13 : decode cX8_unlike 13 = .ok (.ifCond .eq 11, 3) := by decide +kernel
theorem dX8_unlike_16 : decode cX8_unlike 16 = .ok (.aload_n 0, 1) := by decide +kernel
theorem dX8_unlike_17 : decode cX8_unlike 17 = .ok (.iload_n 3, 1) := by decide +kernel
theorem dX8_unlike_18 : decode cX8_unlike 18 = .ok (.invokevirtual 151, 3) := by decide +kernel
theorem dX8_unlike_21 : decode cX8_unlike 21 = .ok (.ifCond .ne 5, 3) := by decide +kernel
theorem dX8_unlike_24 : decode cX8_unlike 24 = .ok (.iconst (-1), 1) := by decide +kernel
theorem dX8_unlike_25 : decode cX8_unlike 25 = .ok (.ireturn, 1) := by decide +kernel
theorem dX8_unlike_26 : decode cX8_unlike 26 = .ok (.aload_n 0, 1) := by decide +kernel
theorem dX8_unlike_27 : decode cX8_unlike 27 = .ok (.iload_n 1, 1) := by decide +kernel
theorem dX8_unlike_28 : decode cX8_unlike 28 = .ok (.iload_n 3, 1) := by decide +kernel
theorem dX8_unlike_29 : decode cX8_unlike 29 = .ok (.iload 4, 2) := by decide +kernel
theorem dX8_unlike_31 : decode cX8_unlike 31 = .ok (.invokevirtual 154, 3) := by decide +kernel
theorem dX8_unlike_34 : decode cX8_unlike 34 = .ok (.aload_n 0, 1) := by decide +kernel
theorem dX8_unlike_35 : decode cX8_unlike 35 = .ok (.iload_n 2, 1) := by decide +kernel
theorem dX8_unlike_36 : decode cX8_unlike 36 = .ok (.iload_n 3, 1) := by decide +kernel
theorem dX8_unlike_37 : decode cX8_unlike 37 = .ok (.iload 4, 2) := by decide +kernel
theorem dX8_unlike_39 : decode cX8_unlike 39 = .ok (.invokevirtual 154, 3) := by decide +kernel
theorem dX8_unlike_42 : decode cX8_unlike 42 = .ok (.isub, 1) := by decide +kernel
theorem dX8_unlike_43 : decode cX8_unlike 43 = .ok (.invokestatic 158, 3) := by decide +kernel
theorem dX8_unlike_46 : decode cX8_unlike 46 = .ok (.ireturn, 1) := by decide +kernel
set_option maxRecDepth 20000 in
theorem ggX8_isEdge_X8_lookNow : GoodIn wsX8_isEdge wsX8_lookNow := goodIn_r _ [7, 8, 9, 10, 11, 12, 13, 6, 14, 15, 16, 17, 18, 19, 20, 21, 22, 23, 24, 25, 26, 30, 31, 32, 33, 34, 35, 36, 37, 38, 39, 40, 41, 42, 43, 44, 45, 46, 47, 48, 49, 50, 51, 52, 53, 54, 55, 56, 57, 58, 59, 60, 61, 62, 63, 64] (by decide +kernel) (by decide +kernel)
set_option maxRecDepth 20000 in
theorem gX8_isEdge_X8_lookNow : GoodIn wsX8_isEdge (wsV RX8 154 RX8 yX8_lookNow wsX8_lookNow) := goodIn_app (goodIn_of _ (by decide +kernel)) ggX8_isEdge_X8_lookNow
set_option maxRecDepth 20000 in
theorem ggX8_isEdge_X8_size : GoodIn wsX8_isEdge wsX8_size := goodIn_r _ [29] (by decide +kernel) (by decide +kernel)
set_option maxRecDepth 20000 in
theorem gX8_isEdge_X8_size : GoodIn wsX8_isEdge (va_wsS RX8 158 yX8_size wsX8_size) := goodIn_app (goodIn_of _ (by decide +kernel)) ggX8_isEdge_X8_size
theorem dX8_isEdge_0 : decode cX8_isEdge 0 = .ok (.iconst 0, 1) := by decide +kernel
theorem dX8_isEdge_1 : decode cX8_isEdge 1 = .ok (.istore_n 3, 1) := by decide +kernel
theorem dX8_isEdge_2 : decode cX8_isEdge 2 = .ok (.iload_n 3, 1) := by decide +kernel
theorem dX8_isEdge_3 : decode cX8_isEdge 3 = .ok (.aload_n 0, 1) := by decide +kernel
theorem dX8_isEdge_4 : decode cX8_isEdge 4 = .ok (.getfield 121, 3) := by decide +kernel
theorem dX8_isEdge_7 : decode cX8_isEdge 7 = .ok (.if_icmp .ge 71, 3) := by decide +kernel
theorem dX8_isEdge_10 : decode cX8_isEdge 10 = .ok (.iconst 0, 1) := by decide +kernel
theorem dX8_isEdge_11 : decode cX8_isEdge 11 = .ok (.istore 4, 2) := by decide +kernel
theorem dX8_isEdge_13 : decode cX8_isEdge 13 = .ok (.iload 4, 2) := by decide +kernel
theorem dX8_isEdge_15 : decode cX8_isEdge 15 = .ok (.iconst 2, 1) := by decide +kernel
theorem dX8_isEdge_16 : decode cX8_isEdge 16 = .ok (.if_icmp .ge 56, 3) := by decide +kernel
theorem dX8_isEdge_19 : decode cX8_isEdge 19 = .ok (.aload_n 0, 1) := by decide +kernel
theorem dX8_isEdge_20 : decode cX8_isEdge 20 = .ok (.iload_n 1, 1) := by decide +kernel
theorem dX8_isEdge_21 : decode cX8_isEdge 21 = .ok (.iload_n 3, 1) := by decide +kernel
theorem dX8_isEdge_22 : decode cX8_isEdge 22 = .ok (.iload 4, 2) := by decide +kernel
theorem dX8_isEdge_24 : decode cX8_isEdge 24 = .ok (.iconst 1, 1) := by decide +kernel
theorem dX8_isEdge_25 : decode cX8_isEdge 25 = .ok (.if_icmp .ne 7, 3) := by decide +kernel
theorem dX8_isEdge_28 : decode cX8_isEdge 28 = .ok (.iconst 1, 1) := by decide +kernel
theorem dX8_isEdge_29 : decode cX8_isEdge 29 = .ok (.goto 4, 3) := by decide +kernel
theorem dX8_isEdge_32 : decode cX8_isEdge 32 = .ok (.iconst 0, 1) := by decide +kernel
theorem dX8_isEdge_33 : decode cX8_isEdge 33 = .ok (.invokevirtual 154, 3) := by decide +kernel
theorem dX8_isEdge_36 : decode cX8_isEdge 36 = .ok (.aload_n 0, 1) := by decide +kernel
theorem dX8_isEdge_37 : decode cX8_isEdge 37 = .ok (.iload_n 2, 1) := by decide +kernel
theorem dX8_isEdge_38 : decode cX8_isEdge 38 = .ok (.iload_n 3, 1) := by decide +kernel
theorem dX8_isEdge_39 : decode cX8_isEdge 39 = .ok (.iload 4, 2) := by decide +kernel
theorem dX8_isEdge_41 : decode cX8_isEdge 41 = .ok (.iconst 1, 1) := by decide +kernel
theorem dX8_isEdge_42 : decode cX8_isEdge 42 = .ok (.if_icmp .ne 7, 3) := by decide +kernel
theorem dX8_isEdge_45 : decode cX8_isEdge 45 = .ok (.iconst 1, 1) := by decide +kernel
theorem dX8_isEdge_46 : decode cX8_isEdge 46 = .ok (.goto 4, 3) := by decide +kernel
theorem dX8_isEdge_49 : decode cX8_isEdge 49 = .ok (.iconst 0, 1) := by decide +kernel
theorem dX8_isEdge_50 : decode cX8_isEdge 50 = .ok (.invokevirtual 154, 3) := by decide +kernel
theorem dX8_isEdge_53 : decode cX8_isEdge 53 = .ok (.isub, 1) := by decide +kernel
theorem dX8_isEdge_54 : decode cX8_isEdge 54 = .ok (.invokestatic 158, 3) := by decide +kernel
theorem dX8_isEdge_57 : decode cX8_isEdge 57 = .ok (.aload_n 0, 1) := by decide +kernel
theorem dX8_isEdge_58 : decode cX8_isEdge 58 = .ok (.getfield 118, 3) := by decide +kernel
theorem dX8_isEdge_61 : decode cX8_isEdge 61 = .ok (.if_icmp .lt 5, 3) := by decide +kernel
theorem dX8_isEdge_64 : decode cX8_isEdge 64 = .ok (.iconst 1, 1) := by decide +kernel
theorem dX8_isEdge_65 : decode cX8_isEdge 65 = .ok (.ireturn, 1) := by decide +kernel
theorem dX8_isEdge_66 : decode cX8_isEdge 66 = .ok (.iinc 4 1, 3) := by decide +kernel
theorem dX8_isEdge_69 : decode cX8_isEdge 69 = .ok (.goto (-56), 3) := by decide +kernel
theorem dX8_isEdge_72 : decode cX8_isEdge 72 = .ok (.iinc 3 1, 3) := by decide +kernel
theorem dX8_isEdge_75 : decode cX8_isEdge 75 = .ok (.goto (-73), 3) := by decide +kernel
theorem dX8_isEdge_78 : decode cX8_isEdge 78 = .ok (.iconst 0, 1) := by decide +kernel
theorem dX8_isEdge_79 : decode cX8_isEdge 79 = .ok (.ireturn, 1) := by decide +kernel
set_option maxRecDepth 20000 in
theorem ggX8_seenOf_X8_all : GoodIn wsX8_seenOf wsX8_all := goodIn_r _ [7, 2, 1, 40, 41, 42, 43, 44, 45, 46, 47, 48, 49, 50, 51, 52, 53, 54, 55, 56, 57, 58, 59, 60, 61, 62, 63, 64, 65, 66, 67, 68, 69, 70, 71, 72, 73, 74] (by decide +kernel) (by decide +kernel)
set_option maxRecDepth 20000 in
theorem gX8_seenOf_X8_all : GoodIn wsX8_seenOf (wsV RX8 81 RX8 yX8_all wsX8_all) := goodIn_app (goodIn_of _ (by decide +kernel)) ggX8_seenOf_X8_all
set_option maxRecDepth 20000 in
theorem ggX8_seenOf_X8_isEdge : GoodIn wsX8_seenOf wsX8_isEdge := goodIn_r _ [11, 12, 13, 14, 15, 16, 6, 17, 18, 19, 20, 21, 22, 23, 24, 25, 26, 27, 28, 29, 30, 31, 32, 33, 34, 35, 36, 37, 38, 39, 40, 41, 42, 43, 44, 45, 46, 47, 48, 49, 50, 51, 52, 53, 54, 55, 56, 57, 58, 59, 60, 61, 62, 63, 64, 65, 66, 67, 68, 69, 70, 71, 72, 73, 74] (by decide +kernel) (by decide +kernel)
set_option maxRecDepth 20000 in
theorem gX8_seenOf_X8_isEdge : GoodIn wsX8_seenOf (wsV RX8 161 RX8 yX8_isEdge wsX8_isEdge) := goodIn_app (goodIn_of _ (by decide +kernel)) ggX8_seenOf_X8_isEdge
theorem dX8_seenOf_0 : decode cX8_seenOf 0 = .ok (.iconst 0, 1) := by decide +kernel
theorem dX8_seenOf_1 : decode cX8_seenOf 1 = .ok (.istore_n 2, 1) := by decide +kernel
theorem dX8_seenOf_2 : decode cX8_seenOf 2 = .ok (.iconst 0, 1) := by decide +kernel
theorem dX8_seenOf_3 : decode cX8_seenOf 3 = .ok (.istore_n 3, 1) := by decide +kernel
theorem dX8_seenOf_4 : decode cX8_seenOf 4 = .ok (.iload_n 3, 1) := by decide +kernel
theorem dX8_seenOf_5 : decode cX8_seenOf 5 = .ok (.aload_n 0, 1) := by decide +kernel
theorem dX8_seenOf_6 : decode cX8_seenOf 6 = .ok (.invokevirtual 81, 3) := by decide +kernel
theorem dX8_seenOf_9 : decode cX8_seenOf 9 = .ok (.if_icmp .ge 143, 3) := by decide +kernel
theorem dX8_seenOf_12 : decode cX8_seenOf 12 = .ok (.iload_n 3, 1) := by decide +kernel
theorem dX8_seenOf_13 : decode cX8_seenOf 13 = .ok (.aload_n 0, 1) := by decide +kernel
theorem dX8_seenOf_14 : decode cX8_seenOf 14 = .ok (.getfield 78, 3) := by decide +kernel
theorem dX8_seenOf_17 : decode cX8_seenOf 17 = .ok (.irem, 1) := by decide +kernel
theorem dX8_seenOf_18 : decode cX8_seenOf 18 = .ok (.aload_n 0, 1) := by decide +kernel
theorem dX8_seenOf_19 : decode cX8_seenOf 19 = .ok (.getfield 78, 3) := by decide +kernel
theorem dX8_seenOf_22 : decode cX8_seenOf 22 = .ok (.iconst 1, 1) := by decide +kernel
theorem dX8_seenOf_23 : decode cX8_seenOf 23 = .ok (.isub, 1) := by decide +kernel
theorem dX8_seenOf_24 : decode cX8_seenOf 24 = .ok (.if_icmp .ge 25, 3) := by decide +kernel
theorem dX8_seenOf_27 : decode cX8_seenOf 27 = .ok (.iload_n 1, 1) := by decide +kernel
theorem dX8_seenOf_28 : decode cX8_seenOf 28 = .ok (.bipush (-9), 2) := by decide +kernel
theorem dX8_seenOf_30 : decode cX8_seenOf 30 = .ok (.if_icmp .eq 15, 3) := by decide +kernel
theorem dX8_seenOf_33 : decode cX8_seenOf 33 = .ok (.iload_n 1, 1) := by decide +kernel
theorem dX8_seenOf_34 : decode cX8_seenOf 34 = .ok (.iload_n 3, 1) := by decide +kernel
theorem dX8_seenOf_35 : decode cX8_seenOf 35 = .ok (.if_icmp .eq 10, 3) := by decide +kernel
theorem dX8_seenOf_38 : decode cX8_seenOf 38 = .ok (.iload_n 1, 1) := by decide +kernel
theorem dX8_seenOf_39 : decode cX8_seenOf 39 = .ok (.iload_n 3, 1) := by decide +kernel
theorem dX8_seenOf_40 : decode cX8_seenOf 40 = .ok (.iconst 1, 1) := by decide +kernel
theorem dX8_seenOf_41 : decode cX8_seenOf 41 = .ok (.iadd, 1) := by decide +kernel
theorem dX8_seenOf_42 : decode cX8_seenOf 42 = .ok (.if_icmp .ne 7, 3) := by decide +kernel
theorem dX8_seenOf_45 : decode cX8_seenOf 45 = .ok (.iconst 1, 1) := by decide +kernel
theorem dX8_seenOf_46 : decode cX8_seenOf 46 = .ok (.goto 4, 3) := by decide +kernel
theorem dX8_seenOf_49 : decode cX8_seenOf 49 = .ok (.iconst 0, 1) := by decide +kernel
theorem dX8_seenOf_50 : decode cX8_seenOf 50 = .ok (.istore 4, 2) := by decide +kernel
theorem dX8_seenOf_52 : decode cX8_seenOf 52 = .ok (.iload_n 3, 1) := by decide +kernel
theorem dX8_seenOf_53 : decode cX8_seenOf 53 = .ok (.aload_n 0, 1) := by decide +kernel
theorem dX8_seenOf_54 : decode cX8_seenOf 54 = .ok (.getfield 78, 3) := by decide +kernel
theorem dX8_seenOf_57 : decode cX8_seenOf 57 = .ok (.idiv, 1) := by decide +kernel
theorem dX8_seenOf_58 : decode cX8_seenOf 58 = .ok (.aload_n 0, 1) := by decide +kernel
theorem dX8_seenOf_59 : decode cX8_seenOf 59 = .ok (.getfield 75, 3) := by decide +kernel
theorem dX8_seenOf_62 : decode cX8_seenOf 62 = .ok (.iconst 1, 1) := by decide +kernel
theorem dX8_seenOf_63 : decode cX8_seenOf 63 = .ok (.isub, 1) := by decide +kernel
theorem dX8_seenOf_64 : decode cX8_seenOf 64 = .ok (.if_icmp .ge 28, 3) := by decide +kernel
theorem dX8_seenOf_67 : decode cX8_seenOf 67 = .ok (.iload_n 1, 1) := by decide +kernel
theorem dX8_seenOf_68 : decode cX8_seenOf 68 = .ok (.bipush (-9), 2) := by decide +kernel
theorem dX8_seenOf_70 : decode cX8_seenOf 70 = .ok (.if_icmp .eq 18, 3) := by decide +kernel
theorem dX8_seenOf_73 : decode cX8_seenOf 73 = .ok (.iload_n 1, 1) := by decide +kernel
theorem dX8_seenOf_74 : decode cX8_seenOf 74 = .ok (.iload_n 3, 1) := by decide +kernel
theorem dX8_seenOf_75 : decode cX8_seenOf 75 = .ok (.if_icmp .eq 13, 3) := by decide +kernel
theorem dX8_seenOf_78 : decode cX8_seenOf 78 = .ok (.iload_n 1, 1) := by decide +kernel
theorem dX8_seenOf_79 : decode cX8_seenOf 79 = .ok (.iload_n 3, 1) := by decide +kernel
theorem dX8_seenOf_80 : decode cX8_seenOf 80 = .ok (.aload_n 0, 1) := by decide +kernel
theorem dX8_seenOf_81 : decode cX8_seenOf 81 = .ok (.getfield 78, 3) := by decide +kernel
theorem dX8_seenOf_84 : decode cX8_seenOf 84 = .ok (.iadd, 1) := by decide +kernel
theorem dX8_seenOf_85 : decode cX8_seenOf 85 = .ok (.if_icmp .ne 7, 3) := by decide +kernel
theorem dX8_seenOf_88 : decode cX8_seenOf 88 = .ok (.iconst 1, 1) := by decide +kernel
theorem dX8_seenOf_89 : decode cX8_seenOf 89 = .ok (.goto 4, 3) := by decide +kernel
theorem dX8_seenOf_92 : decode cX8_seenOf 92 = .ok (.iconst 0, 1) := by decide +kernel
theorem dX8_seenOf_93 : decode cX8_seenOf 93 = .ok (.istore 5, 2) := by decide +kernel
theorem dX8_seenOf_95 : decode cX8_seenOf 95 = .ok (.iload_n 2, 1) := by decide +kernel
theorem dX8_seenOf_96 : decode cX8_seenOf 96 = .ok (.iload 4, 2) := by decide +kernel
theorem dX8_seenOf_98 : decode cX8_seenOf 98 = .ok (.ifCond .eq 18, 3) := by decide +kernel
theorem dX8_seenOf_101 : decode cX8_seenOf 101 = .ok (.aload_n 0, 1) := by decide +kernel
theorem dX8_seenOf_102 : decode cX8_seenOf 102 = .ok (.iload_n 3, 1) := by decide +kernel
theorem dX8_seenOf_103 : decode cX8_seenOf 103 = .ok (.iload_n 3, 1) := by decide +kernel
theorem dX8_seenOf_104 : decode cX8_seenOf 104 = .ok (.iconst 1, 1) := by decide +kernel
theorem dX8_seenOf_105 : decode cX8_seenOf 105 = .ok (.iadd, 1) := by decide +kernel
theorem dX8_seenOf_106 : decode cX8_seenOf 106 = .ok (.invokevirtual 161, 3) := by decide +kernel
theorem dX8_seenOf_109 : decode cX8_seenOf 109 = .ok (.ifCond .eq 7, 3) := by decide +kernel
theorem dX8_seenOf_112 : decode cX8_seenOf 112 = .ok (.iconst 1, 1) := by decide +kernel
theorem dX8_seenOf_113 : decode cX8_seenOf 113 = .ok (.goto 4, 3) := by decide +kernel
theorem dX8_seenOf_116 : decode cX8_seenOf 116 = .ok (.iconst 0, 1) := by decide +kernel
theorem dX8_seenOf_117 : decode cX8_seenOf 117 = .ok (.iadd, 1) := by decide +kernel
theorem dX8_seenOf_118 : decode cX8_seenOf 118 = .ok (.istore_n 2, 1) := by decide +kernel
theorem dX8_seenOf_119 : decode cX8_seenOf 119 = .ok (.iload_n 2, 1) := by decide +kernel
theorem dX8_seenOf_120 : decode cX8_seenOf 120 = .ok (.iload 5, 2) := by decide +kernel
theorem dX8_seenOf_122 : decode cX8_seenOf 122 = .ok (.ifCond .eq 21, 3) := by decide +kernel
theorem dX8_seenOf_125 : decode cX8_seenOf 125 = .ok (.aload_n 0, 1) := by decide +kernel
theorem dX8_seenOf_126 : decode cX8_seenOf 126 = .ok (.iload_n 3, 1) := by decide +kernel
theorem dX8_seenOf_127 : decode cX8_seenOf 127 = .ok (.iload_n 3, 1) := by decide +kernel
theorem dX8_seenOf_128 : decode cX8_seenOf 128 = .ok (.aload_n 0, 1) := by decide +kernel
theorem dX8_seenOf_129 : decode cX8_seenOf 129 = .ok (.getfield 78, 3) := by decide +kernel
theorem dX8_seenOf_132 : decode cX8_seenOf 132 = .ok (.iadd, 1) := by decide +kernel
theorem dX8_seenOf_133 : decode cX8_seenOf 133 = .ok (.invokevirtual 161, 3) := by decide +kernel
theorem dX8_seenOf_136 : decode cX8_seenOf 136 = .ok (.ifCond .eq 7, 3) := by decide +kernel
theorem dX8_seenOf_139 : decode cX8_seenOf 139 = .ok (.iconst 1, 1) := by decide +kernel
theorem dX8_seenOf_140 : decode cX8_seenOf 140 = .ok (.goto 4, 3) := by decide +kernel
theorem dX8_seenOf_143 : decode cX8_seenOf 143 = .ok (.iconst 0, 1) := by decide +kernel
theorem dX8_seenOf_144 : decode cX8_seenOf 144 = .ok (.iadd, 1) := by decide +kernel
theorem dX8_seenOf_145 : decode cX8_seenOf 145 = .ok (.istore_n 2, 1) := by decide +kernel
theorem dX8_seenOf_146 : decode cX8_seenOf 146 = .ok (.iinc 3 1, 3) := by decide +kernel
theorem dX8_seenOf_149 : decode cX8_seenOf 149 = .ok (.goto (-145), 3) := by decide +kernel
theorem dX8_seenOf_152 : decode cX8_seenOf 152 = .ok (.iload_n 2, 1) := by decide +kernel
theorem dX8_seenOf_153 : decode cX8_seenOf 153 = .ok (.ireturn, 1) := by decide +kernel
set_option maxRecDepth 20000 in
theorem ggX8_seen_X8_seenOf : GoodIn wsX8_seen wsX8_seenOf := goodIn_r _ [5, 6, 7, 8, 9, 10, 4, 11, 12, 13, 14, 15, 16, 17, 18, 19, 20, 21, 22, 23, 24, 25, 26, 27, 28, 29, 30, 31, 32, 33, 34, 35, 36, 37, 38, 39, 40, 41, 42, 43, 48, 49, 50, 51, 52, 53, 54, 55, 56, 57, 58, 59, 60, 61, 62, 63, 64, 65, 66, 67, 68, 69, 70, 71, 72, 73, 74, 75, 76, 77, 78, 79, 80, 81, 82] (by decide +kernel) (by decide +kernel)
set_option maxRecDepth 20000 in
theorem gX8_seen_X8_seenOf : GoodIn wsX8_seen (wsV RX8 165 RX8 yX8_seenOf wsX8_seenOf) := goodIn_app (goodIn_of _ (by decide +kernel)) ggX8_seen_X8_seenOf
set_option maxRecDepth 20000 in
theorem ggX8_seen_X8_isCell : GoodIn wsX8_seen wsX8_isCell := goodIn_r _ [47, 8, 9, 10, 4, 11, 7, 6, 48, 49, 50, 51, 52, 53, 54, 55, 56, 57, 58, 59, 60, 61, 62, 63, 64, 65, 66, 67, 68, 69, 70, 71, 72, 73, 74, 75, 76, 77, 78, 79, 80, 81, 82] (by decide +kernel) (by decide +kernel)
set_option maxRecDepth 20000 in
theorem gX8_seen_X8_isCell : GoodIn wsX8_seen (wsV RX8 134 RX8 yX8_isCell wsX8_isCell) := goodIn_app (goodIn_of _ (by decide +kernel)) ggX8_seen_X8_isCell
theorem dX8_seen_0 : decode cX8_seen 0 = .ok (.iload_n 1, 1) := by decide +kernel
theorem dX8_seen_1 : decode cX8_seen 1 = .ok (.iconst (-1), 1) := by decide +kernel
theorem dX8_seen_2 : decode cX8_seen 2 = .ok (.if_icmp .ne 10, 3) := by decide +kernel
theorem dX8_seen_5 : decode cX8_seen 5 = .ok (.aload_n 0, 1) := by decide +kernel
theorem dX8_seen_6 : decode cX8_seen 6 = .ok (.bipush (-9), 2) := by decide +kernel
theorem dX8_seen_8 : decode cX8_seen 8 = .ok (.invokevirtual 165, 3) := by decide +kernel
theorem dX8_seen_11 : decode cX8_seen 11 = .ok (.ireturn, 1) := by decide +kernel
theorem dX8_seen_12 : decode cX8_seen 12 = .ok (.aload_n 0, 1) := by decide +kernel
theorem dX8_seen_13 : decode cX8_seen 13 = .ok (.iload_n 1, 1) := by decide +kernel
theorem dX8_seen_14 : decode cX8_seen 14 = .ok (.invokevirtual 134, 3) := by decide +kernel
theorem dX8_seen_17 : decode cX8_seen 17 = .ok (.ifCond .eq 11, 3) := by decide +kernel
theorem dX8_seen_20 : decode cX8_seen 20 = .ok (.aload_n 0, 1) := by decide +kernel
theorem dX8_seen_21 : decode cX8_seen 21 = .ok (.iload_n 1, 1) := by decide +kernel
theorem dX8_seen_22 : decode cX8_seen 22 = .ok (.invokevirtual 165, 3) := by decide +kernel
theorem dX8_seen_25 : decode cX8_seen 25 = .ok (.goto 4, 3) := by decide +kernel
theorem dX8_seen_28 : decode cX8_seen 28 = .ok (.iconst (-1), 1) := by decide +kernel
theorem dX8_seen_29 : decode cX8_seen 29 = .ok (.ireturn, 1) := by decide +kernel
theorem dX8_layMix_0 : decode cX8_layMix 0 = .ok (.iconst 0, 1) := by decide +kernel
theorem dX8_layMix_1 : decode cX8_layMix 1 = .ok (.istore_n 1, 1) := by decide +kernel
theorem dX8_layMix_2 : decode cX8_layMix 2 = .ok (.aload_n 0, 1) := by decide +kernel
theorem dX8_layMix_3 : decode cX8_layMix 3 = .ok (.bipush (-9), 2) := by decide +kernel
theorem dX8_layMix_5 : decode cX8_layMix 5 = .ok (.putfield 168, 3) := by decide +kernel
theorem dX8_layMix_8 : decode cX8_layMix 8 = .ok (.iconst 0, 1) := by decide +kernel
theorem dX8_layMix_9 : decode cX8_layMix 9 = .ok (.istore_n 2, 1) := by decide +kernel
theorem dX8_layMix_10 : decode cX8_layMix 10 = .ok (.iload_n 2, 1) := by decide +kernel
theorem dX8_layMix_11 : decode cX8_layMix 11 = .ok (.iconst 4, 1) := by decide +kernel
theorem dX8_layMix_12 : decode cX8_layMix 12 = .ok (.if_icmp .ge 53, 3) := by decide +kernel
theorem dX8_layMix_15 : decode cX8_layMix 15 = .ok (.iload_n 1, 1) := by decide +kernel
theorem dX8_layMix_16 : decode cX8_layMix 16 = .ok (.aload_n 0, 1) := by decide +kernel
theorem dX8_layMix_17 : decode cX8_layMix 17 = .ok (.getfield 47, 3) := by decide +kernel
theorem dX8_layMix_20 : decode cX8_layMix 20 = .ok (.iload_n 2, 1) := by decide +kernel
theorem dX8_layMix_21 : decode cX8_layMix 21 = .ok (.iaload, 1) := by decide +kernel
theorem dX8_layMix_22 : decode cX8_layMix 22 = .ok (.iadd, 1) := by decide +kernel
theorem dX8_layMix_23 : decode cX8_layMix 23 = .ok (.istore_n 1, 1) := by decide +kernel
theorem dX8_layMix_24 : decode cX8_layMix 24 = .ok (.aload_n 0, 1) := by decide +kernel
theorem dX8_layMix_25 : decode cX8_layMix 25 = .ok (.aload_n 0, 1) := by decide +kernel
theorem dX8_layMix_26 : decode cX8_layMix 26 = .ok (.getfield 168, 3) := by decide +kernel
theorem dX8_layMix_29 : decode cX8_layMix 29 = .ok (.bipush (-9), 2) := by decide +kernel
theorem dX8_layMix_31 : decode cX8_layMix 31 = .ok (.if_icmp .ne 21, 3) := by decide +kernel
theorem dX8_layMix_34 : decode cX8_layMix 34 = .ok (.aload_n 0, 1) := by decide +kernel
theorem dX8_layMix_35 : decode cX8_layMix 35 = .ok (.getfield 47, 3) := by decide +kernel
theorem dX8_layMix_38 : decode cX8_layMix 38 = .ok (.iload_n 2, 1) := by decide +kernel
theorem dX8_layMix_39 : decode cX8_layMix 39 = .ok (.iaload, 1) := by decide +kernel
theorem dX8_layMix_40 : decode cX8_layMix 40 = .ok (.ifCond .le 12, 3) := by decide +kernel
theorem dX8_layMix_43 : decode cX8_layMix 43 = .ok (.aload_n 0, 1) := by decide +kernel
theorem dX8_layMix_44 : decode cX8_layMix 44 = .ok (.getfield 38, 3) := by decide +kernel
theorem dX8_layMix_47 : decode cX8_layMix 47 = .ok (.iload_n 2, 1) := by decide +kernel
theorem dX8_layMix_48 : decode cX8_layMix 48 = .ok (.iaload, 1) := by decide +kernel
theorem dX8_layMix_49 : decode cX8_layMix 49 = .ok (.goto 7, 3) := by decide +kernel
theorem dX8_layMix_52 : decode cX8_layMix 52 = .ok (.aload_n 0, 1) := by decide +kernel
theorem dX8_layMix_53 : decode cX8_layMix 53 = .ok (.getfield 168, 3) := by decide +kernel
theorem dX8_layMix_56 : decode cX8_layMix 56 = .ok (.putfield 168, 3) := by decide +kernel
theorem dX8_layMix_59 : decode cX8_layMix 59 = .ok (.iinc 2 1, 3) := by decide +kernel
theorem dX8_layMix_62 : decode cX8_layMix 62 = .ok (.goto (-52), 3) := by decide +kernel
theorem dX8_layMix_65 : decode cX8_layMix 65 = .ok (.iconst 0, 1) := by decide +kernel
theorem dX8_layMix_66 : decode cX8_layMix 66 = .ok (.istore_n 2, 1) := by decide +kernel
theorem dX8_layMix_67 : decode cX8_layMix 67 = .ok (.iload_n 2, 1) := by decide +kernel
theorem dX8_layMix_68 : decode cX8_layMix 68 = .ok (.iconst 3, 1) := by decide +kernel
theorem dX8_layMix_69 : decode cX8_layMix 69 = .ok (.if_icmp .ge 57, 3) := by decide +kernel
theorem dX8_layMix_72 : decode cX8_layMix 72 = .ok (.iconst 0, 1) := by decide +kernel
theorem dX8_layMix_73 : decode cX8_layMix 73 = .ok (.istore_n 3, 1) := by decide +kernel
theorem dX8_layMix_74 : decode cX8_layMix 74 = .ok (.iconst 0, 1) := by decide +kernel
theorem dX8_layMix_75 : decode cX8_layMix 75 = .ok (.istore 4, 2) := by decide +kernel
theorem dX8_layMix_77 : decode cX8_layMix 77 = .ok (.iload 4, 2) := by decide +kernel
theorem dX8_layMix_79 : decode cX8_layMix 79 = .ok (.iconst 4, 1) := by decide +kernel
theorem dX8_layMix_80 : decode cX8_layMix 80 = .ok (.if_icmp .ge 31, 3) := by decide +kernel
theorem dX8_layMix_83 : decode cX8_layMix 83 = .ok (.iload_n 3, 1) := by decide +kernel
theorem dX8_layMix_84 : decode cX8_layMix 84 = .ok (.aload_n 0, 1) := by decide +kernel
theorem dX8_layMix_85 : decode cX8_layMix 85 = .ok (.getfield 47, 3) := by decide +kernel
theorem dX8_layMix_88 : decode cX8_layMix 88 = .ok (.iload 4, 2) := by decide +kernel
theorem dX8_layMix_90 : decode cX8_layMix 90 = .ok (.iaload, 1) := by decide +kernel
theorem dX8_layMix_91 : decode cX8_layMix 91 = .ok (.aload_n 0, 1) := by decide +kernel
theorem dX8_layMix_92 : decode cX8_layMix 92 = .ok (.getfield 41, 3) := by decide +kernel
theorem dX8_layMix_95 : decode cX8_layMix 95 = .ok (.iconst 3, 1) := by decide +kernel
theorem dX8_layMix_96 : decode cX8_layMix 96 = .ok (.iload 4, 2) := by decide +kernel
theorem dX8_layMix_98 : decode cX8_layMix 98 = .ok (.imul, 1) := by decide +kernel
theorem dX8_layMix_99 : decode cX8_layMix 99 = .ok (.iload_n 2, 1) := by decide +kernel
theorem dX8_layMix_100 : decode cX8_layMix 100 = .ok (.iadd, 1) := by decide +kernel
theorem dX8_layMix_101 : decode cX8_layMix 101 = .ok (.iaload, 1) := by decide +kernel
theorem dX8_layMix_102 : decode cX8_layMix 102 = .ok (.imul, 1) := by decide +kernel
theorem dX8_layMix_103 : decode cX8_layMix 103 = .ok (.iadd, 1) := by decide +kernel
theorem dX8_layMix_104 : decode cX8_layMix 104 = .ok (.istore_n 3, 1) := by decide +kernel
theorem dX8_layMix_105 : decode cX8_layMix 105 = .ok (.iinc 4 1, 3) := by decide +kernel
theorem dX8_layMix_108 : decode cX8_layMix 108 = .ok (.goto (-31), 3) := by decide +kernel
theorem dX8_layMix_111 : decode cX8_layMix 111 = .ok (.aload_n 0, 1) := by decide +kernel
theorem dX8_layMix_112 : decode cX8_layMix 112 = .ok (.getfield 50, 3) := by decide +kernel
theorem dX8_layMix_115 : decode cX8_layMix 115 = .ok (.iload_n 2, 1) := by decide +kernel
theorem dX8_layMix_116 : decode cX8_layMix 116 = .ok (.iload_n 3, 1) := by decide +kernel
theorem dX8_layMix_117 : decode cX8_layMix 117 = .ok (.iload_n 1, 1) := by decide +kernel
theorem dX8_layMix_118 : decode cX8_layMix 118 = .ok (.idiv, 1) := by decide +kernel
theorem dX8_layMix_119 : decode cX8_layMix 119 = .ok (.iastore, 1) := by decide +kernel
theorem dX8_layMix_120 : decode cX8_layMix 120 = .ok (.iinc 2 1, 3) := by decide +kernel
theorem dX8_layMix_123 : decode cX8_layMix 123 = .ok (.goto (-56), 3) := by decide +kernel
theorem dX8_layMix_126 : decode cX8_layMix 126 = .ok (.return_, 1) := by decide +kernel
set_option maxRecDepth 20000 in
theorem ggX8_areDrops_X8_within : GoodIn wsX8_areDrops wsX8_within := goodIn_r _ [5] (by decide +kernel) (by decide +kernel)
set_option maxRecDepth 20000 in
theorem gX8_areDrops_X8_within : GoodIn wsX8_areDrops (va_wsS RX8 71 yX8_within wsX8_within) := goodIn_app (goodIn_of _ (by decide +kernel)) ggX8_areDrops_X8_within
set_option maxRecDepth 20000 in
theorem ggX8_areDrops_X8_isCoat : GoodIn wsX8_areDrops wsX8_isCoat := goodIn_r _ [9, 10, 11, 12, 13, 14, 15, 16, 17, 18, 19, 20, 21, 22, 23, 24, 25, 26, 27, 28, 29, 30, 31, 32, 33, 34, 35, 36, 37, 38, 39, 40, 41, 42, 43, 44, 45] (by decide +kernel) (by decide +kernel)
set_option maxRecDepth 20000 in
theorem gX8_areDrops_X8_isCoat : GoodIn wsX8_areDrops (wsV RX8 137 RX8 yX8_isCoat wsX8_isCoat) := goodIn_app (goodIn_of _ (by decide +kernel)) ggX8_areDrops_X8_isCoat
theorem dX8_areDrops_0 : decode cX8_areDrops 0 = .ok (.iconst 0, 1) := by decide +kernel
theorem dX8_areDrops_1 : decode cX8_areDrops 1 = .ok (.istore_n 1, 1) := by decide +kernel
theorem dX8_areDrops_2 : decode cX8_areDrops 2 = .ok (.iconst 0, 1) := by decide +kernel
theorem dX8_areDrops_3 : decode cX8_areDrops 3 = .ok (.istore_n 2, 1) := by decide +kernel
theorem dX8_areDrops_4 : decode cX8_areDrops 4 = .ok (.iload_n 2, 1) := by decide +kernel
theorem dX8_areDrops_5 : decode cX8_areDrops 5 = .ok (.iconst 4, 1) := by decide +kernel
theorem dX8_areDrops_6 : decode cX8_areDrops 6 = .ok (.if_icmp .ge 52, 3) := by decide +kernel
theorem dX8_areDrops_9 : decode cX8_areDrops 9 = .ok (.aload_n 0, 1) := by decide +kernel
theorem dX8_areDrops_10 : decode cX8_areDrops 10 = .ok (.getfield 47, 3) := by decide +kernel
theorem dX8_areDrops_13 : decode cX8_areDrops 13 = .ok (.iload_n 2, 1) := by decide +kernel
theorem dX8_areDrops_14 : decode cX8_areDrops 14 = .ok (.iaload, 1) := by decide +kernel
theorem dX8_areDrops_15 : decode cX8_areDrops 15 = .ok (.iconst 0, 1) := by decide +kernel
theorem dX8_areDrops_16 : decode cX8_areDrops 16 = .ok (.bipush 9, 2) := by decide +kernel
theorem dX8_areDrops_18 : decode cX8_areDrops 18 = .ok (.invokestatic 71, 3) := by decide +kernel
theorem dX8_areDrops_21 : decode cX8_areDrops 21 = .ok (.ifCond .eq 20, 3) := by decide +kernel
theorem dX8_areDrops_24 : decode cX8_areDrops 24 = .ok (.aload_n 0, 1) := by decide +kernel
theorem dX8_areDrops_25 : decode cX8_areDrops 25 = .ok (.getfield 47, 3) := by decide +kernel
theorem dX8_areDrops_28 : decode cX8_areDrops 28 = .ok (.iload_n 2, 1) := by decide +kernel
theorem dX8_areDrops_29 : decode cX8_areDrops 29 = .ok (.iaload, 1) := by decide +kernel
theorem dX8_areDrops_30 : decode cX8_areDrops 30 = .ok (.ifCond .le 13, 3) := by decide +kernel
theorem dX8_areDrops_33 : decode cX8_areDrops 33 = .ok (.aload_n 0, 1) := by decide +kernel
theorem dX8_areDrops_34 : decode cX8_areDrops 34 = .ok (.iload_n 2, 1) := by decide +kernel
theorem dX8_areDrops_35 : decode cX8_areDrops 35 = .ok (.invokevirtual 137, 3) := by decide +kernel
theorem dX8_areDrops_38 : decode cX8_areDrops 38 = .ok (.ifCond .ne 5, 3) := by decide +kernel
theorem dX8_areDrops_41 : decode cX8_areDrops 41 = .ok (.iconst 0, 1) := by decide +kernel
theorem dX8_areDrops_42 : decode cX8_areDrops 42 = .ok (.ireturn, 1) := by decide +kernel
theorem dX8_areDrops_43 : decode cX8_areDrops 43 = .ok (.iload_n 1, 1) := by decide +kernel
theorem dX8_areDrops_44 : decode cX8_areDrops 44 = .ok (.aload_n 0, 1) := by decide +kernel
theorem dX8_areDrops_45 : decode cX8_areDrops 45 = .ok (.getfield 47, 3) := by decide +kernel
theorem dX8_areDrops_48 : decode cX8_areDrops 48 = .ok (.iload_n 2, 1) := by decide +kernel
theorem dX8_areDrops_49 : decode cX8_areDrops 49 = .ok (.iaload, 1) := by decide +kernel
theorem dX8_areDrops_50 : decode cX8_areDrops 50 = .ok (.iadd, 1) := by decide +kernel
theorem dX8_areDrops_51 : decode cX8_areDrops 51 = .ok (.istore_n 1, 1) := by decide +kernel
theorem dX8_areDrops_52 : decode cX8_areDrops 52 = .ok (.iinc 2 1, 3) := by decide +kernel
theorem dX8_areDrops_55 : decode cX8_areDrops 55 = .ok (.goto (-51), 3) := by decide +kernel
theorem dX8_areDrops_58 : decode cX8_areDrops 58 = .ok (.iload_n 1, 1) := by decide +kernel
theorem dX8_areDrops_59 : decode cX8_areDrops 59 = .ok (.iconst 1, 1) := by decide +kernel
theorem dX8_areDrops_60 : decode cX8_areDrops 60 = .ok (.bipush 12, 2) := by decide +kernel
theorem dX8_areDrops_62 : decode cX8_areDrops 62 = .ok (.invokestatic 71, 3) := by decide +kernel
theorem dX8_areDrops_65 : decode cX8_areDrops 65 = .ok (.ireturn, 1) := by decide +kernel
set_option maxRecDepth 20000 in
theorem ggX8_mix_X8_areDrops : GoodIn wsX8_mix wsX8_areDrops := goodIn_r _ [9, 1, 10, 11, 8, 12, 13, 14, 15, 16, 2, 33, 34, 35, 36, 37, 38, 39, 40, 41, 42, 43, 44, 45, 46, 47, 48, 49, 50, 51, 52, 53, 54, 55, 56, 57, 58, 59, 60, 61, 62, 63, 64, 65, 66, 67] (by decide +kernel) (by decide +kernel)
set_option maxRecDepth 20000 in
theorem gX8_mix_X8_areDrops : GoodIn wsX8_mix (wsV RX8 171 RX8 yX8_areDrops wsX8_areDrops) := goodIn_app (goodIn_of _ (by decide +kernel)) ggX8_mix_X8_areDrops
set_option maxRecDepth 20000 in
theorem ggX8_mix_X8_all : GoodIn wsX8_mix wsX8_all := goodIn_r _ [20, 21, 22, 33, 34, 35, 36, 37, 38, 39, 40, 41, 42, 43, 44, 45, 46, 47, 48, 49, 50, 51, 52, 53, 54, 55, 56, 57, 58, 59, 60, 61, 62, 63, 64, 65, 66, 67] (by decide +kernel) (by decide +kernel)
set_option maxRecDepth 20000 in
theorem gX8_mix_X8_all : GoodIn wsX8_mix (wsV RX8 81 RX8 yX8_all wsX8_all) := goodIn_app (goodIn_of _ (by decide +kernel)) ggX8_mix_X8_all
set_option maxRecDepth 20000 in
theorem ggX8_mix_X8_layMix : GoodIn wsX8_mix wsX8_layMix := goodIn_r _ [26, 3, 1, 27, 28, 4, 33, 34, 35, 36, 37, 38, 39, 40, 41, 42, 43, 44, 45, 46, 47, 48, 49, 50, 51, 52, 53, 54, 55, 56, 57, 58, 59, 60, 61, 62, 63, 64, 65, 66, 67] (by decide +kernel) (by decide +kernel)
set_option maxRecDepth 20000 in
theorem gX8_mix_X8_layMix : GoodIn wsX8_mix (wsV RX8 175 RX8 yX8_layMix wsX8_layMix) := goodIn_app (goodIn_of _ (by decide +kernel)) ggX8_mix_X8_layMix
set_option maxRecDepth 20000 in
theorem ggX8_mix_X8_addCoat : GoodIn wsX8_mix wsX8_addCoat := goodIn_r _ [32, 27, 2, 28, 33, 34, 35, 36, 37, 38, 39, 40, 41, 42, 43, 44, 45, 46, 47, 48, 49, 50, 51, 52, 53, 54, 55, 56, 57, 58, 59, 60, 61, 62, 63, 64, 65, 66, 67] (by decide +kernel) (by decide +kernel)
set_option maxRecDepth 20000 in
theorem gX8_mix_X8_addCoat : GoodIn wsX8_mix (wsV RX8 127 RX8 yX8_addCoat wsX8_addCoat) := goodIn_app (goodIn_of _ (by decide +kernel)) ggX8_mix_X8_addCoat
theorem dX8_mix_0 : decode cX8_mix 0 = .ok (.aload_n 0, 1) := by decide +kernel
theorem dX8_mix_1 : decode cX8_mix 1 = .ok (.getfield 47, 3) := by decide +kernel
theorem dX8_mix_4 : decode cX8_mix 4 = .ok (.iconst 0, 1) := by decide +kernel
theorem dX8_mix_5 : decode cX8_mix 5 = .ok (.iload_n 1, 1) := by decide +kernel
theorem dX8_mix_6 : decode cX8_mix 6 = .ok (.iastore, 1) := by decide +kernel
theorem dX8_mix_7 : decode cX8_mix 7 = .ok (.aload_n 0, 1) := by decide +kernel
theorem dX8_mix_8 : decode cX8_mix 8 = .ok (.getfield 47, 3) := by decide +kernel
theorem dX8_mix_11 : decode cX8_mix 11 = .ok (.iconst 1, 1) := by decide +kernel
theorem dX8_mix_12 : decode cX8_mix 12 = .ok (.iload_n 2, 1) := by decide +kernel
theorem dX8_mix_13 : decode cX8_mix 13 = .ok (.iastore, 1) := by decide +kernel
theorem dX8_mix_14 : decode cX8_mix 14 = .ok (.aload_n 0, 1) := by decide +kernel
theorem dX8_mix_15 : decode cX8_mix 15 = .ok (.getfield 47, 3) := by decide +kernel
theorem dX8_mix_18 : decode cX8_mix 18 = .ok (.iconst 2, 1) := by decide +kernel
theorem dX8_mix_19 : decode cX8_mix 19 = .ok (.iload_n 3, 1) := by decide +kernel
theorem dX8_mix_20 : decode cX8_mix 20 = .ok (.iastore, 1) := by decide +kernel
theorem dX8_mix_21 : decode cX8_mix 21 = .ok (.aload_n 0, 1) := by decide +kernel
theorem dX8_mix_22 : decode cX8_mix 22 = .ok (.getfield 47, 3) := by decide +kernel
theorem dX8_mix_25 : decode cX8_mix 25 = .ok (.iconst 3, 1) := by decide +kernel
theorem dX8_mix_26 : decode cX8_mix 26 = .ok (.iload 4, 2) := by decide +kernel
theorem dX8_mix_28 : decode cX8_mix 28 = .ok (.iastore, 1) := by decide +kernel
theorem dX8_mix_29 : decode cX8_mix 29 = .ok (.aload_n 0, 1) := by decide +kernel
theorem dX8_mix_30 : decode cX8_mix 30 = .ok (.invokevirtual 171, 3) := by decide +kernel
theorem dX8_mix_33 : decode cX8_mix 33 = .ok (.ifCond .ne 6, 3) := by decide +kernel
theorem dX8_mix_36 : decode cX8_mix 36 = .ok (.bipush (-2), 2) := by decide +kernel
theorem dX8_mix_38 : decode cX8_mix 38 = .ok (.ireturn, 1) := by decide +kernel
theorem dX8_mix_39 : decode cX8_mix 39 = .ok (.aload_n 0, 1) := by decide +kernel
theorem dX8_mix_40 : decode cX8_mix 40 = .ok (.invokevirtual 81, 3) := by decide +kernel
theorem dX8_mix_43 : decode cX8_mix 43 = .ok (.ifCond .ne 6, 3) := by decide +kernel
theorem dX8_mix_46 : decode cX8_mix 46 = .ok (.bipush (-3), 2) := by decide +kernel
theorem dX8_mix_48 : decode cX8_mix 48 = .ok (.ireturn, 1) := by decide +kernel
theorem dX8_mix_49 : decode cX8_mix 49 = .ok (.aload_n 0, 1) := by decide +kernel
theorem dX8_mix_50 : decode cX8_mix 50 = .ok (.getfield 124, 3) := by decide +kernel
theorem dX8_mix_53 : decode cX8_mix 53 = .ok (.bipush 6, 2) := by decide +kernel
theorem dX8_mix_55 : decode cX8_mix 55 = .ok (.if_icmp .ne 6, 3) := by decide +kernel
theorem dX8_mix_58 : decode cX8_mix 58 = .ok (.bipush (-4), 2) := by decide +kernel
theorem dX8_mix_60 : decode cX8_mix 60 = .ok (.ireturn, 1) := by decide +kernel
theorem dX8_mix_61 : decode cX8_mix 61 = .ok (.aload_n 0, 1) := by decide +kernel
theorem dX8_mix_62 : decode cX8_mix 62 = .ok (.invokevirtual 175, 3) := by decide +kernel
theorem dX8_mix_65 : decode cX8_mix 65 = .ok (.aload_n 0, 1) := by decide +kernel
theorem dX8_mix_66 : decode cX8_mix 66 = .ok (.aload_n 0, 1) := by decide +kernel
theorem dX8_mix_67 : decode cX8_mix 67 = .ok (.getfield 168, 3) := by decide +kernel
theorem dX8_mix_70 : decode cX8_mix 70 = .ok (.aload_n 0, 1) := by decide +kernel
theorem dX8_mix_71 : decode cX8_mix 71 = .ok (.getfield 50, 3) := by decide +kernel
theorem dX8_mix_74 : decode cX8_mix 74 = .ok (.iconst 0, 1) := by decide +kernel
theorem dX8_mix_75 : decode cX8_mix 75 = .ok (.iaload, 1) := by decide +kernel
theorem dX8_mix_76 : decode cX8_mix 76 = .ok (.aload_n 0, 1) := by decide +kernel
theorem dX8_mix_77 : decode cX8_mix 77 = .ok (.getfield 50, 3) := by decide +kernel
theorem dX8_mix_80 : decode cX8_mix 80 = .ok (.iconst 1, 1) := by decide +kernel
theorem dX8_mix_81 : decode cX8_mix 81 = .ok (.iaload, 1) := by decide +kernel
theorem dX8_mix_82 : decode cX8_mix 82 = .ok (.aload_n 0, 1) := by decide +kernel
theorem dX8_mix_83 : decode cX8_mix 83 = .ok (.getfield 50, 3) := by decide +kernel
theorem dX8_mix_86 : decode cX8_mix 86 = .ok (.iconst 2, 1) := by decide +kernel
theorem dX8_mix_87 : decode cX8_mix 87 = .ok (.iaload, 1) := by decide +kernel
theorem dX8_mix_88 : decode cX8_mix 88 = .ok (.invokevirtual 127, 3) := by decide +kernel
theorem dX8_mix_91 : decode cX8_mix 91 = .ok (.ireturn, 1) := by decide +kernel
set_option maxRecDepth 20000 in
theorem ggX8_mixUnlike_X8_comes : GoodIn wsX8_mixUnlike wsX8_comes := goodIn_r _ [9, 10, 31, 32, 33, 34, 35, 36, 37, 38, 39, 40, 41, 42, 43, 44, 45, 46, 47, 48, 49, 50, 51, 52, 53, 54, 55, 56, 57, 58, 59, 60, 61, 62, 63, 64, 65] (by decide +kernel) (by decide +kernel)
set_option maxRecDepth 20000 in
theorem gX8_mixUnlike_X8_comes : GoodIn wsX8_mixUnlike (wsV RX8 140 RX8 yX8_comes wsX8_comes) := goodIn_app (goodIn_of _ (by decide +kernel)) ggX8_mixUnlike_X8_comes
set_option maxRecDepth 20000 in
theorem ggX8_mixUnlike_X8_lookNow : GoodIn wsX8_mixUnlike wsX8_lookNow := goodIn_r _ [14, 15, 16, 17, 18, 19, 20, 8, 21, 4, 22, 23, 24, 25, 26, 27, 5, 6, 7, 9, 10, 31, 32, 33, 34, 35, 36, 37, 38, 39, 40, 41, 42, 43, 44, 45, 46, 47, 48, 49, 50, 51, 52, 53, 54, 55, 56, 57, 58, 59, 60, 61, 62, 63, 64, 65] (by decide +kernel) (by decide +kernel)
set_option maxRecDepth 20000 in
theorem gX8_mixUnlike_X8_lookNow : GoodIn wsX8_mixUnlike (wsV RX8 154 RX8 yX8_lookNow wsX8_lookNow) := goodIn_app (goodIn_of _ (by decide +kernel)) ggX8_mixUnlike_X8_lookNow
set_option maxRecDepth 20000 in
theorem ggX8_mixUnlike_X8_size : GoodIn wsX8_mixUnlike wsX8_size := goodIn_r _ [30] (by decide +kernel) (by decide +kernel)
set_option maxRecDepth 20000 in
theorem gX8_mixUnlike_X8_size : GoodIn wsX8_mixUnlike (va_wsS RX8 158 yX8_size wsX8_size) := goodIn_app (goodIn_of _ (by decide +kernel)) ggX8_mixUnlike_X8_size
theorem dX8_mixUnlike_0 : decode cX8_mixUnlike 0 = .ok (.iconst 0, 1) := by decide +kernel
theorem dX8_mixUnlike_1 : decode cX8_mixUnlike 1 = .ok (.istore_n 2, 1) := by decide +kernel
theorem dX8_mixUnlike_2 : decode cX8_mixUnlike 2 = .ok (.iconst 0, 1) := by decide +kernel
theorem dX8_mixUnlike_3 : decode cX8_mixUnlike 3 = .ok (.istore_n 3, 1) := by decide +kernel
theorem dX8_mixUnlike_4 : decode cX8_mixUnlike 4 = .ok (.iload_n 3, 1) := by decide +kernel
theorem dX8_mixUnlike_5 : decode cX8_mixUnlike 5 = .ok (.aload_n 0, 1) := by decide +kernel
theorem dX8_mixUnlike_6 : decode cX8_mixUnlike 6 = .ok (.getfield 121, 3) := by decide +kernel
