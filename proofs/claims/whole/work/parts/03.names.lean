set_option maxRecDepth 20000 in
theorem ggX7_init_X6_init : GoodIn wsX7_init wsX6_init := goodIn_r _ [26, 27, 2, 3, 28, 29, 30, 31, 32, 33, 34, 35, 36, 37, 38, 39, 40, 41, 42, 43, 44, 79, 80, 81, 82, 83, 84, 85, 86, 87, 88, 89, 109, 110, 111, 112, 113, 114, 115] (by decide +kernel) (by decide +kernel)
set_option maxRecDepth 20000 in
theorem gX7_init_X6_init : GoodIn wsX7_init (wsX6_init) := ggX7_init_X6_init
set_option maxRecDepth 20000 in
theorem ggX7_init_X2_init : GoodIn wsX7_init wsX2_init := goodIn_r _ [47, 48, 2, 3, 32, 49, 50, 51, 90, 91, 92] (by decide +kernel) (by decide +kernel)
set_option maxRecDepth 20000 in
theorem gX7_init_X2_init : GoodIn wsX7_init (wsX2_init) := ggX7_init_X2_init
set_option maxRecDepth 20000 in
theorem ggX7_init_X3_init : GoodIn wsX7_init wsX3_init := goodIn_r _ [54, 55, 2, 3, 32, 56, 57, 36, 37, 58, 59, 60, 61, 41, 42, 43, 44, 93, 94, 95, 96, 97, 98, 99, 114, 115] (by decide +kernel) (by decide +kernel)
set_option maxRecDepth 20000 in
theorem gX7_init_X3_init : GoodIn wsX7_init (wsX3_init) := ggX7_init_X3_init
set_option maxRecDepth 20000 in
theorem ggX7_init_X4_init : GoodIn wsX7_init wsX4_init := goodIn_r _ [64, 65, 2, 3, 66, 67, 100, 101, 102, 103, 104] (by decide +kernel) (by decide +kernel)
set_option maxRecDepth 20000 in
theorem gX7_init_X4_init : GoodIn wsX7_init (wsX4_init) := ggX7_init_X4_init
set_option maxRecDepth 20000 in
theorem ggX7_init_X5_init : GoodIn wsX7_init wsX5_init := goodIn_r _ [69, 70, 2, 3, 32, 71, 105, 106, 107, 108] (by decide +kernel) (by decide +kernel)
set_option maxRecDepth 20000 in
theorem gX7_init_X5_init_n49 : GoodIn wsX7_init (wsX5_init) := ggX7_init_X5_init
theorem dX7_init_0 : decode cX7_init 0 = .ok (.aload_n 0, 1) := by decide +kernel
theorem dX7_init_1 : decode cX7_init 1 = .ok (.invokespecial 5, 3) := by decide +kernel
theorem dX7_init_4 : decode cX7_init 4 = .ok (.aload_n 0, 1) := by decide +kernel
theorem dX7_init_5 : decode cX7_init 5 = .ok (.iconst 4, 1) := by decide +kernel
theorem dX7_init_6 : decode cX7_init 6 = .ok (.anewarray 11, 3) := by decide +kernel
theorem dX7_init_9 : decode cX7_init 9 = .ok (.putfield 13, 3) := by decide +kernel
theorem dX7_init_12 : decode cX7_init 12 = .ok (.aload_n 0, 1) := by decide +kernel
theorem dX7_init_13 : decode cX7_init 13 = .ok (.new 17, 3) := by decide +kernel
theorem dX7_init_16 : decode cX7_init 16 = .ok (.dup, 1) := by decide +kernel
theorem dX7_init_17 : decode cX7_init 17 = .ok (.invokespecial 19, 3) := by decide +kernel
theorem dX7_init_20 : decode cX7_init 20 = .ok (.putfield 20, 3) := by decide +kernel
theorem dX7_init_23 : decode cX7_init 23 = .ok (.aload_n 0, 1) := by decide +kernel
theorem dX7_init_24 : decode cX7_init 24 = .ok (.new 24, 3) := by decide +kernel
theorem dX7_init_27 : decode cX7_init 27 = .ok (.dup, 1) := by decide +kernel
theorem dX7_init_28 : decode cX7_init 28 = .ok (.aload_n 0, 1) := by decide +kernel
theorem dX7_init_29 : decode cX7_init 29 = .ok (.getfield 20, 3) := by decide +kernel
theorem dX7_init_32 : decode cX7_init 32 = .ok (.invokespecial 26, 3) := by decide +kernel
theorem dX7_init_35 : decode cX7_init 35 = .ok (.putfield 29, 3) := by decide +kernel
theorem dX7_init_38 : decode cX7_init 38 = .ok (.aload_n 0, 1) := by decide +kernel
theorem dX7_init_39 : decode cX7_init 39 = .ok (.new 33, 3) := by decide +kernel
theorem dX7_init_42 : decode cX7_init 42 = .ok (.dup, 1) := by decide +kernel
theorem dX7_init_43 : decode cX7_init 43 = .ok (.aload_n 0, 1) := by decide +kernel
theorem dX7_init_44 : decode cX7_init 44 = .ok (.getfield 20, 3) := by decide +kernel
theorem dX7_init_47 : decode cX7_init 47 = .ok (.invokespecial 35, 3) := by decide +kernel
theorem dX7_init_50 : decode cX7_init 50 = .ok (.putfield 36, 3) := by decide +kernel
theorem dX7_init_53 : decode cX7_init 53 = .ok (.aload_n 0, 1) := by decide +kernel
theorem dX7_init_54 : decode cX7_init 54 = .ok (.new 40, 3) := by decide +kernel
theorem dX7_init_57 : decode cX7_init 57 = .ok (.dup, 1) := by decide +kernel
theorem dX7_init_58 : decode cX7_init 58 = .ok (.aload_n 0, 1) := by decide +kernel
theorem dX7_init_59 : decode cX7_init 59 = .ok (.getfield 20, 3) := by decide +kernel
theorem dX7_init_62 : decode cX7_init 62 = .ok (.aload_n 0, 1) := by decide +kernel
theorem dX7_init_63 : decode cX7_init 63 = .ok (.getfield 29, 3) := by decide +kernel
theorem dX7_init_66 : decode cX7_init 66 = .ok (.invokespecial 42, 3) := by decide +kernel
theorem dX7_init_69 : decode cX7_init 69 = .ok (.putfield 45, 3) := by decide +kernel
theorem dX7_init_72 : decode cX7_init 72 = .ok (.iconst 0, 1) := by decide +kernel
theorem dX7_init_73 : decode cX7_init 73 = .ok (.istore_n 1, 1) := by decide +kernel
theorem dX7_init_74 : decode cX7_init 74 = .ok (.iload_n 1, 1) := by decide +kernel
theorem dX7_init_75 : decode cX7_init 75 = .ok (.iconst 4, 1) := by decide +kernel
theorem dX7_init_76 : decode cX7_init 76 = .ok (.if_icmp .ge 22, 3) := by decide +kernel
theorem dX7_init_79 : decode cX7_init 79 = .ok (.aload_n 0, 1) := by decide +kernel
theorem dX7_init_80 : decode cX7_init 80 = .ok (.getfield 13, 3) := by decide +kernel
theorem dX7_init_83 : decode cX7_init 83 = .ok (.iload_n 1, 1) := by decide +kernel
theorem dX7_init_84 : decode cX7_init 84 = .ok (.new 11, 3) := by decide +kernel
theorem dX7_init_87 : decode cX7_init 87 = .ok (.dup, 1) := by decide +kernel
theorem dX7_init_88 : decode cX7_init 88 = .ok (.invokespecial 49, 3) := by decide +kernel
theorem dX7_init_91 : decode cX7_init 91 = .ok (.aastore, 1) := by decide +kernel
theorem dX7_init_92 : decode cX7_init 92 = .ok (.iinc 1 1, 3) := by decide +kernel
theorem dX7_init_95 : decode cX7_init 95 = .ok (.goto (-21), 3) := by decide +kernel
theorem dX7_init_98 : decode cX7_init 98 = .ok (.return_, 1) := by decide +kernel
set_option maxRecDepth 20000 in
theorem ggX7_wall_X7_isSheet : GoodIn wsX7_wall wsX7_isSheet := goodIn_r _ [8, 9, 10, 7, 11] (by decide +kernel) (by decide +kernel)
set_option maxRecDepth 20000 in
theorem gX7_wall_X7_isSheet : GoodIn wsX7_wall (va_wsS RX7 54 yX7_isSheet wsX7_isSheet) := goodIn_app (goodIn_of _ (by decide +kernel)) ggX7_wall_X7_isSheet
set_option maxRecDepth 20000 in
theorem ggX7_wall_X7_isSort : GoodIn wsX7_wall wsX7_isSort := goodIn_r _ [14, 9, 10, 7, 11] (by decide +kernel) (by decide +kernel)
set_option maxRecDepth 20000 in
theorem gX7_wall_X7_isSort : GoodIn wsX7_wall (va_wsS RX7 58 yX7_isSort wsX7_isSort) := goodIn_app (goodIn_of _ (by decide +kernel)) ggX7_wall_X7_isSort
set_option maxRecDepth 20000 in
theorem ggX7_wall_X5_faultAs : GoodIn wsX7_wall wsX5_faultAs := goodIn_r _ [19, 20, 21, 97, 98, 99, 100] (by decide +kernel) (by decide +kernel)
set_option maxRecDepth 20000 in
theorem gX7_wall_X5_faultAs : GoodIn wsX7_wall (wsV RX7 61 RX5 yX5_faultAs wsX5_faultAs) := goodIn_app (goodIn_of _ (by decide +kernel)) ggX7_wall_X5_faultAs
set_option maxRecDepth 20000 in
theorem ggX7_wall_X5_reaches : GoodIn wsX7_wall wsX5_reaches := goodIn_r _ [25, 26, 97, 98, 99, 100] (by decide +kernel) (by decide +kernel)
set_option maxRecDepth 20000 in
theorem gX7_wall_X5_reaches : GoodIn wsX7_wall (wsV RX7 65 RX5 yX5_reaches wsX5_reaches) := goodIn_app (goodIn_of _ (by decide +kernel)) ggX7_wall_X5_reaches
set_option maxRecDepth 20000 in
theorem ggX7_wall_X7_failed : GoodIn wsX7_wall wsX7_failed := goodIn_r _ [30, 1, 79, 80, 81, 82, 83, 84, 85] (by decide +kernel) (by decide +kernel)
set_option maxRecDepth 20000 in
theorem gX7_wall_X7_failed : GoodIn wsX7_wall (wsV RX7 69 RX7 yX7_failed wsX7_failed) := goodIn_app (goodIn_of _ (by decide +kernel)) ggX7_wall_X7_failed
set_option maxRecDepth 20000 in
theorem ggX7_wall_X5_firstWrongCode : GoodIn wsX7_wall wsX5_firstWrongCode := goodIn_r _ [34, 35, 10, 7, 11, 36, 37, 38, 18, 39, 40, 41, 42, 97, 98, 99, 100] (by decide +kernel) (by decide +kernel)
set_option maxRecDepth 20000 in
theorem gX7_wall_X5_firstWrongCode : GoodIn wsX7_wall (wsV RX7 72 RX5 yX5_firstWrongCode wsX5_firstWrongCode) := goodIn_app (goodIn_of _ (by decide +kernel)) ggX7_wall_X5_firstWrongCode
set_option maxRecDepth 20000 in
theorem ggX7_wall_X6_makeAnew : GoodIn wsX7_wall wsX6_makeAnew := goodIn_r _ [47, 48, 49, 50, 51, 52, 53, 54, 55, 56, 57, 58, 59, 60, 61, 62, 63, 64, 65, 66, 67, 68, 69, 70, 71, 72, 73, 74, 46, 75, 76, 77, 78, 97, 98, 99, 100, 86, 87, 88, 89, 90, 91, 92, 93, 94, 95, 96, 101, 102, 103, 104, 105, 106, 107] (by decide +kernel) (by decide +kernel)
set_option maxRecDepth 20000 in
theorem gX7_wall_X6_makeAnew : GoodIn wsX7_wall (wsV RX7 76 RX6 yX6_makeAnew wsX6_makeAnew) := goodIn_app (goodIn_of _ (by decide +kernel)) ggX7_wall_X6_makeAnew
theorem dX7_wall_0 : decode cX7_wall 0 = .ok (.aload_n 0, 1) := by decide +kernel
theorem dX7_wall_1 : decode cX7_wall 1 = .ok (.iconst 0, 1) := by decide +kernel
theorem dX7_wall_2 : decode cX7_wall 2 = .ok (.putfield 50, 3) := by decide +kernel
theorem dX7_wall_5 : decode cX7_wall 5 = .ok (.iload_n 1, 1) := by decide +kernel
theorem dX7_wall_6 : decode cX7_wall 6 = .ok (.invokestatic 54, 3) := by decide +kernel
theorem dX7_wall_9 : decode cX7_wall 9 = .ok (.ifCond .ne 5, 3) := by decide +kernel
theorem dX7_wall_12 : decode cX7_wall 12 = .ok (.iconst (-1), 1) := by decide +kernel
theorem dX7_wall_13 : decode cX7_wall 13 = .ok (.ireturn, 1) := by decide +kernel
theorem dX7_wall_14 : decode cX7_wall 14 = .ok (.iload_n 2, 1) := by decide +kernel
theorem dX7_wall_15 : decode cX7_wall 15 = .ok (.invokestatic 58, 3) := by decide +kernel
theorem dX7_wall_18 : decode cX7_wall 18 = .ok (.ifCond .ne 6, 3) := by decide +kernel
theorem dX7_wall_21 : decode cX7_wall 21 = .ok (.bipush (-2), 2) := by decide +kernel
theorem dX7_wall_23 : decode cX7_wall 23 = .ok (.ireturn, 1) := by decide +kernel
theorem dX7_wall_24 : decode cX7_wall 24 = .ok (.aload_n 0, 1) := by decide +kernel
theorem dX7_wall_25 : decode cX7_wall 25 = .ok (.getfield 13, 3) := by decide +kernel
theorem dX7_wall_28 : decode cX7_wall 28 = .ok (.iload_n 1, 1) := by decide +kernel
theorem dX7_wall_29 : decode cX7_wall 29 = .ok (.aaload, 1) := by decide +kernel
theorem dX7_wall_30 : decode cX7_wall 30 = .ok (.astore 5, 2) := by decide +kernel
theorem dX7_wall_32 : decode cX7_wall 32 = .ok (.aload 5, 2) := by decide +kernel
theorem dX7_wall_34 : decode cX7_wall 34 = .ok (.iload_n 2, 1) := by decide +kernel
theorem dX7_wall_35 : decode cX7_wall 35 = .ok (.invokevirtual 61, 3) := by decide +kernel
theorem dX7_wall_38 : decode cX7_wall 38 = .ok (.istore 6, 2) := by decide +kernel
theorem dX7_wall_40 : decode cX7_wall 40 = .ok (.iload 6, 2) := by decide +kernel
theorem dX7_wall_42 : decode cX7_wall 42 = .ok (.ifCond .ne 11, 3) := by decide +kernel
theorem dX7_wall_45 : decode cX7_wall 45 = .ok (.iload 4, 2) := by decide +kernel
theorem dX7_wall_47 : decode cX7_wall 47 = .ok (.ifCond .ge 6, 3) := by decide +kernel
theorem dX7_wall_50 : decode cX7_wall 50 = .ok (.iconst 4, 1) := by decide +kernel
theorem dX7_wall_51 : decode cX7_wall 51 = .ok (.istore 6, 2) := by decide +kernel
theorem dX7_wall_53 : decode cX7_wall 53 = .ok (.iload 6, 2) := by decide +kernel
theorem dX7_wall_55 : decode cX7_wall 55 = .ok (.ifCond .ne 17, 3) := by decide +kernel
theorem dX7_wall_58 : decode cX7_wall 58 = .ok (.aload 5, 2) := by decide +kernel
theorem dX7_wall_60 : decode cX7_wall 60 = .ok (.iload_n 3, 1) := by decide +kernel
theorem dX7_wall_61 : decode cX7_wall 61 = .ok (.iload 4, 2) := by decide +kernel
theorem dX7_wall_63 : decode cX7_wall 63 = .ok (.invokevirtual 65, 3) := by decide +kernel
theorem dX7_wall_66 : decode cX7_wall 66 = .ok (.ifCond .ne 6, 3) := by decide +kernel
theorem dX7_wall_69 : decode cX7_wall 69 = .ok (.iconst 3, 1) := by decide +kernel
theorem dX7_wall_70 : decode cX7_wall 70 = .ok (.istore 6, 2) := by decide +kernel
theorem dX7_wall_72 : decode cX7_wall 72 = .ok (.iload 6, 2) := by decide +kernel
theorem dX7_wall_74 : decode cX7_wall 74 = .ok (.ifCond .eq 10, 3) := by decide +kernel
theorem dX7_wall_77 : decode cX7_wall 77 = .ok (.aload_n 0, 1) := by decide +kernel
theorem dX7_wall_78 : decode cX7_wall 78 = .ok (.iload 6, 2) := by decide +kernel
theorem dX7_wall_80 : decode cX7_wall 80 = .ok (.invokevirtual 69, 3) := by decide +kernel
theorem dX7_wall_83 : decode cX7_wall 83 = .ok (.ireturn, 1) := by decide +kernel
theorem dX7_wall_84 : decode cX7_wall 84 = .ok (.aload 5, 2) := by decide +kernel
theorem dX7_wall_86 : decode cX7_wall 86 = .ok (.iload_n 3, 1) := by decide +kernel
theorem dX7_wall_87 : decode cX7_wall 87 = .ok (.iload 4, 2) := by decide +kernel
theorem dX7_wall_89 : decode cX7_wall 89 = .ok (.invokevirtual 72, 3) := by decide +kernel
theorem dX7_wall_92 : decode cX7_wall 92 = .ok (.istore 7, 2) := by decide +kernel
theorem dX7_wall_94 : decode cX7_wall 94 = .ok (.iload 7, 2) := by decide +kernel
theorem dX7_wall_96 : decode cX7_wall 96 = .ok (.ifCond .lt 9, 3) := by decide +kernel
theorem dX7_wall_99 : decode cX7_wall 99 = .ok (.bipush (-100), 2) := by decide +kernel
theorem dX7_wall_101 : decode cX7_wall 101 = .ok (.iload 7, 2) := by decide +kernel
theorem dX7_wall_103 : decode cX7_wall 103 = .ok (.isub, 1) := by decide +kernel
theorem dX7_wall_104 : decode cX7_wall 104 = .ok (.ireturn, 1) := by decide +kernel
theorem dX7_wall_105 : decode cX7_wall 105 = .ok (.aload_n 0, 1) := by decide +kernel
theorem dX7_wall_106 : decode cX7_wall 106 = .ok (.getfield 20, 3) := by decide +kernel
theorem dX7_wall_109 : decode cX7_wall 109 = .ok (.aload 5, 2) := by decide +kernel
theorem dX7_wall_111 : decode cX7_wall 111 = .ok (.iload_n 3, 1) := by decide +kernel
theorem dX7_wall_112 : decode cX7_wall 112 = .ok (.invokevirtual 76, 3) := by decide +kernel
theorem dX7_wall_115 : decode cX7_wall 115 = .ok (.aload_n 0, 1) := by decide +kernel
theorem dX7_wall_116 : decode cX7_wall 116 = .ok (.getfield 20, 3) := by decide +kernel
theorem dX7_wall_119 : decode cX7_wall 119 = .ok (.getfield 80, 3) := by decide +kernel
theorem dX7_wall_122 : decode cX7_wall 122 = .ok (.ireturn, 1) := by decide +kernel
set_option maxRecDepth 20000 in
theorem ggX7_ofCell_X6_hasCell : GoodIn wsX7_ofCell wsX6_hasCell := goodIn_r _ [12, 13, 21, 22, 23, 24, 25, 26, 27, 28, 29, 30, 31] (by decide +kernel) (by decide +kernel)
set_option maxRecDepth 20000 in
theorem gX7_ofCell_X6_hasCell : GoodIn wsX7_ofCell (wsV RX7 83 RX6 yX6_hasCell wsX6_hasCell) := goodIn_app (goodIn_of _ (by decide +kernel)) ggX7_ofCell_X6_hasCell
theorem dX7_ofCell_0 : decode cX7_ofCell 0 = .ok (.aload_n 0, 1) := by decide +kernel
theorem dX7_ofCell_1 : decode cX7_ofCell 1 = .ok (.getfield 20, 3) := by decide +kernel
theorem dX7_ofCell_4 : decode cX7_ofCell 4 = .ok (.iload_n 1, 1) := by decide +kernel
theorem dX7_ofCell_5 : decode cX7_ofCell 5 = .ok (.invokevirtual 83, 3) := by decide +kernel
theorem dX7_ofCell_8 : decode cX7_ofCell 8 = .ok (.ifCond .ne 5, 3) := by decide +kernel
theorem dX7_ofCell_11 : decode cX7_ofCell 11 = .ok (.iconst (-1), 1) := by decide +kernel
theorem dX7_ofCell_12 : decode cX7_ofCell 12 = .ok (.ireturn, 1) := by decide +kernel
theorem dX7_ofCell_13 : decode cX7_ofCell 13 = .ok (.aload_n 0, 1) := by decide +kernel
theorem dX7_ofCell_14 : decode cX7_ofCell 14 = .ok (.getfield 20, 3) := by decide +kernel
theorem dX7_ofCell_17 : decode cX7_ofCell 17 = .ok (.getfield 86, 3) := by decide +kernel
theorem dX7_ofCell_20 : decode cX7_ofCell 20 = .ok (.iload_n 1, 1) := by decide +kernel
theorem dX7_ofCell_21 : decode cX7_ofCell 21 = .ok (.aaload, 1) := by decide +kernel
theorem dX7_ofCell_22 : decode cX7_ofCell 22 = .ok (.astore_n 3, 1) := by decide +kernel
theorem dX7_ofCell_23 : decode cX7_ofCell 23 = .ok (.iload_n 2, 1) := by decide +kernel
theorem dX7_ofCell_24 : decode cX7_ofCell 24 = .ok (.tableswitch 69 0 4 #[36, 41, 46, 51, 56], 36) := by decide +kernel
theorem dX7_ofCell_60 : decode cX7_ofCell 60 = .ok (.aload_n 3, 1) := by decide +kernel
theorem dX7_ofCell_61 : decode cX7_ofCell 61 = .ok (.getfield 90, 3) := by decide +kernel
theorem dX7_ofCell_64 : decode cX7_ofCell 64 = .ok (.ireturn, 1) := by decide +kernel
theorem dX7_ofCell_65 : decode cX7_ofCell 65 = .ok (.aload_n 3, 1) := by decide +kernel
theorem dX7_ofCell_66 : decode cX7_ofCell 66 = .ok (.getfield 95, 3) := by decide +kernel
theorem dX7_ofCell_69 : decode cX7_ofCell 69 = .ok (.ireturn, 1) := by decide +kernel
theorem dX7_ofCell_70 : decode cX7_ofCell 70 = .ok (.aload_n 3, 1) := by decide +kernel
theorem dX7_ofCell_71 : decode cX7_ofCell 71 = .ok (.getfield 98, 3) := by decide +kernel
theorem dX7_ofCell_74 : decode cX7_ofCell 74 = .ok (.ireturn, 1) := by decide +kernel
theorem dX7_ofCell_75 : decode cX7_ofCell 75 = .ok (.aload_n 3, 1) := by decide +kernel
theorem dX7_ofCell_76 : decode cX7_ofCell 76 = .ok (.getfield 101, 3) := by decide +kernel
theorem dX7_ofCell_79 : decode cX7_ofCell 79 = .ok (.ireturn, 1) := by decide +kernel
theorem dX7_ofCell_80 : decode cX7_ofCell 80 = .ok (.aload_n 3, 1) := by decide +kernel
theorem dX7_ofCell_81 : decode cX7_ofCell 81 = .ok (.getfield 104, 3) := by decide +kernel
theorem dX7_ofCell_84 : decode cX7_ofCell 84 = .ok (.ifCond .eq 7, 3) := by decide +kernel
theorem dX7_ofCell_87 : decode cX7_ofCell 87 = .ok (.iconst 1, 1) := by decide +kernel
theorem dX7_ofCell_88 : decode cX7_ofCell 88 = .ok (.goto 4, 3) := by decide +kernel
theorem dX7_ofCell_91 : decode cX7_ofCell 91 = .ok (.iconst 0, 1) := by decide +kernel
theorem dX7_ofCell_92 : decode cX7_ofCell 92 = .ok (.ireturn, 1) := by decide +kernel
theorem dX7_ofCell_93 : decode cX7_ofCell 93 = .ok (.bipush (-2), 2) := by decide +kernel
theorem dX7_ofCell_95 : decode cX7_ofCell 95 = .ok (.ireturn, 1) := by decide +kernel
set_option maxRecDepth 20000 in
theorem ggX7_set_X7_isWithin : GoodIn wsX7_set wsX7_isWithin := goodIn_r _ [7] (by decide +kernel) (by decide +kernel)
set_option maxRecDepth 20000 in
theorem gX7_set_X7_isWithin : GoodIn wsX7_set (va_wsS RX7 108 yX7_isWithin wsX7_isWithin) := goodIn_app (goodIn_of _ (by decide +kernel)) ggX7_set_X7_isWithin
set_option maxRecDepth 20000 in
theorem ggX7_set_X6_stands : GoodIn wsX7_set wsX6_stands := goodIn_r _ [12, 13, 21, 22, 23, 24, 25, 26, 27, 28, 29, 30, 31] (by decide +kernel) (by decide +kernel)
set_option maxRecDepth 20000 in
theorem gX7_set_X6_stands : GoodIn wsX7_set (wsV RX7 112 RX6 yX6_stands wsX6_stands) := goodIn_app (goodIn_of _ (by decide +kernel)) ggX7_set_X6_stands
theorem dX7_set_0 : decode cX7_set 0 = .ok (.iload_n 1, 1) := by decide +kernel
theorem dX7_set_1 : decode cX7_set 1 = .ok (.iconst 0, 1) := by decide +kernel
theorem dX7_set_2 : decode cX7_set 2 = .ok (.iconst 1, 1) := by decide +kernel
theorem dX7_set_3 : decode cX7_set 3 = .ok (.invokestatic 108, 3) := by decide +kernel
theorem dX7_set_6 : decode cX7_set 6 = .ok (.ifCond .eq 23, 3) := by decide +kernel
theorem dX7_set_9 : decode cX7_set 9 = .ok (.iload_n 2, 1) := by decide +kernel
theorem dX7_set_10 : decode cX7_set 10 = .ok (.iconst 0, 1) := by decide +kernel
theorem dX7_set_11 : decode cX7_set 11 = .ok (.iload_n 1, 1) := by decide +kernel
theorem dX7_set_12 : decode cX7_set 12 = .ok (.ifCond .ne 8, 3) := by decide +kernel
theorem dX7_set_15 : decode cX7_set 15 = .ok (.bipush 9, 2) := by decide +kernel
theorem dX7_set_17 : decode cX7_set 17 = .ok (.goto 6, 3) := by decide +kernel
theorem dX7_set_20 : decode cX7_set 20 = .ok (.sipush 999, 3) := by decide +kernel
theorem dX7_set_23 : decode cX7_set 23 = .ok (.invokestatic 108, 3) := by decide +kernel
theorem dX7_set_26 : decode cX7_set 26 = .ok (.ifCond .ne 6, 3) := by decide +kernel
theorem dX7_set_29 : decode cX7_set 29 = .ok (.bipush (-2), 2) := by decide +kernel
theorem dX7_set_31 : decode cX7_set 31 = .ok (.ireturn, 1) := by decide +kernel
theorem dX7_set_32 : decode cX7_set 32 = .ok (.aload_n 0, 1) := by decide +kernel
theorem dX7_set_33 : decode cX7_set 33 = .ok (.getfield 20, 3) := by decide +kernel
theorem dX7_set_36 : decode cX7_set 36 = .ok (.invokevirtual 112, 3) := by decide +kernel
theorem dX7_set_39 : decode cX7_set 39 = .ok (.ifCond .ne 6, 3) := by decide +kernel
theorem dX7_set_42 : decode cX7_set 42 = .ok (.bipush (-3), 2) := by decide +kernel
theorem dX7_set_44 : decode cX7_set 44 = .ok (.ireturn, 1) := by decide +kernel
theorem dX7_set_45 : decode cX7_set 45 = .ok (.iload_n 1, 1) := by decide +kernel
theorem dX7_set_46 : decode cX7_set 46 = .ok (.ifCond .ne 13, 3) := by decide +kernel
theorem dX7_set_49 : decode cX7_set 49 = .ok (.aload_n 0, 1) := by decide +kernel
theorem dX7_set_50 : decode cX7_set 50 = .ok (.getfield 20, 3) := by decide +kernel
theorem dX7_set_53 : decode cX7_set 53 = .ok (.getfield 116, 3) := by decide +kernel
theorem dX7_set_56 : decode cX7_set 56 = .ok (.goto 10, 3) := by decide +kernel
theorem dX7_set_59 : decode cX7_set 59 = .ok (.aload_n 0, 1) := by decide +kernel
theorem dX7_set_60 : decode cX7_set 60 = .ok (.getfield 20, 3) := by decide +kernel
theorem dX7_set_63 : decode cX7_set 63 = .ok (.getfield 119, 3) := by decide +kernel
theorem dX7_set_66 : decode cX7_set 66 = .ok (.istore_n 3, 1) := by decide +kernel
theorem dX7_set_67 : decode cX7_set 67 = .ok (.iload_n 1, 1) := by decide +kernel
theorem dX7_set_68 : decode cX7_set 68 = .ok (.ifCond .ne 14, 3) := by decide +kernel
theorem dX7_set_71 : decode cX7_set 71 = .ok (.aload_n 0, 1) := by decide +kernel
theorem dX7_set_72 : decode cX7_set 72 = .ok (.getfield 20, 3) := by decide +kernel
theorem dX7_set_75 : decode cX7_set 75 = .ok (.iload_n 2, 1) := by decide +kernel
theorem dX7_set_76 : decode cX7_set 76 = .ok (.putfield 116, 3) := by decide +kernel
theorem dX7_set_79 : decode cX7_set 79 = .ok (.goto 11, 3) := by decide +kernel
theorem dX7_set_82 : decode cX7_set 82 = .ok (.aload_n 0, 1) := by decide +kernel
theorem dX7_set_83 : decode cX7_set 83 = .ok (.getfield 20, 3) := by decide +kernel
theorem dX7_set_86 : decode cX7_set 86 = .ok (.iload_n 2, 1) := by decide +kernel
theorem dX7_set_87 : decode cX7_set 87 = .ok (.putfield 119, 3) := by decide +kernel
theorem dX7_set_90 : decode cX7_set 90 = .ok (.iload_n 3, 1) := by decide +kernel
theorem dX7_set_91 : decode cX7_set 91 = .ok (.ireturn, 1) := by decide +kernel
set_option maxRecDepth 20000 in
theorem ggX7_years_X7_isWithin : GoodIn wsX7_years wsX7_isWithin := goodIn_r _ [6] (by decide +kernel) (by decide +kernel)
set_option maxRecDepth 20000 in
theorem gX7_years_X7_isWithin : GoodIn wsX7_years (va_wsS RX7 108 yX7_isWithin wsX7_isWithin) := goodIn_app (goodIn_of _ (by decide +kernel)) ggX7_years_X7_isWithin
set_option maxRecDepth 20000 in
theorem ggX7_years_X6_stands : GoodIn wsX7_years wsX6_stands := goodIn_r _ [11, 12, 35, 36, 37, 38, 39, 40, 41, 42, 43, 44, 45] (by decide +kernel) (by decide +kernel)
set_option maxRecDepth 20000 in
theorem gX7_years_X6_stands : GoodIn wsX7_years (wsV RX7 112 RX6 yX6_stands wsX6_stands) := goodIn_app (goodIn_of _ (by decide +kernel)) ggX7_years_X6_stands
set_option maxRecDepth 20000 in
theorem ggX7_years_X6_age : GoodIn wsX7_years wsX6_age := goodIn_r _ [16, 17, 12, 18, 19, 20, 21, 22, 23, 24, 25, 26, 27, 35, 36, 37, 38, 39, 40, 41, 42, 43, 44, 45, 46, 47, 48, 49, 50] (by decide +kernel) (by decide +kernel)
set_option maxRecDepth 20000 in
theorem gX7_years_X6_age : GoodIn wsX7_years (wsV RX7 125 RX6 yX6_age wsX6_age) := goodIn_app (goodIn_of _ (by decide +kernel)) ggX7_years_X6_age
theorem dX7_years_0 : decode cX7_years 0 = .ok (.iload_n 1, 1) := by decide +kernel
theorem dX7_years_1 : decode cX7_years 1 = .ok (.iconst 0, 1) := by decide +kernel
theorem dX7_years_2 : decode cX7_years 2 = .ok (.bipush 40, 2) := by decide +kernel
theorem dX7_years_4 : decode cX7_years 4 = .ok (.aload_n 0, 1) := by decide +kernel
theorem dX7_years_5 : decode cX7_years 5 = .ok (.getfield 20, 3) := by decide +kernel
theorem dX7_years_8 : decode cX7_years 8 = .ok (.getfield 122, 3) := by decide +kernel
theorem dX7_years_11 : decode cX7_years 11 = .ok (.isub, 1) := by decide +kernel
theorem dX7_years_12 : decode cX7_years 12 = .ok (.invokestatic 108, 3) := by decide +kernel
theorem dX7_years_15 : decode cX7_years 15 = .ok (.ifCond .ne 6, 3) := by decide +kernel
theorem dX7_years_18 : decode cX7_years 18 = .ok (.bipush (-2), 2) := by decide +kernel
theorem dX7_years_20 : decode cX7_years 20 = .ok (.ireturn, 1) := by decide +kernel
theorem dX7_years_21 : decode cX7_years 21 = .ok (.aload_n 0, 1) := by decide +kernel
theorem dX7_years_22 : decode cX7_years 22 = .ok (.getfield 20, 3) := by decide +kernel
theorem dX7_years_25 : decode cX7_years 25 = .ok (.invokevirtual 112, 3) := by decide +kernel
theorem dX7_years_28 : decode cX7_years 28 = .ok (.ifCond .ne 6, 3) := by decide +kernel
theorem dX7_years_31 : decode cX7_years 31 = .ok (.bipush (-3), 2) := by decide +kernel
theorem dX7_years_33 : decode cX7_years 33 = .ok (.ireturn, 1) := by decide +kernel
theorem dX7_years_34 : decode cX7_years 34 = .ok (.aload_n 0, 1) := by decide +kernel
theorem dX7_years_35 : decode cX7_years 35 = .ok (.getfield 20, 3) := by decide +kernel
theorem dX7_years_38 : decode cX7_years 38 = .ok (.iload_n 1, 1) := by decide +kernel
theorem dX7_years_39 : decode cX7_years 39 = .ok (.invokevirtual 125, 3) := by decide +kernel
theorem dX7_years_42 : decode cX7_years 42 = .ok (.aload_n 0, 1) := by decide +kernel
theorem dX7_years_43 : decode cX7_years 43 = .ok (.getfield 20, 3) := by decide +kernel
theorem dX7_years_46 : decode cX7_years 46 = .ok (.getfield 122, 3) := by decide +kernel
theorem dX7_years_49 : decode cX7_years 49 = .ok (.ireturn, 1) := by decide +kernel
set_option maxRecDepth 20000 in
theorem ggX7_hang_X6_hasCell : GoodIn wsX7_hang wsX6_hasCell := goodIn_r _ [8, 9, 17, 18, 19, 20, 21, 22, 23, 24, 25, 26, 27] (by decide +kernel) (by decide +kernel)
set_option maxRecDepth 20000 in
theorem gX7_hang_X6_hasCell : GoodIn wsX7_hang (wsV RX7 83 RX6 yX6_hasCell wsX6_hasCell) := goodIn_app (goodIn_of _ (by decide +kernel)) ggX7_hang_X6_hasCell
theorem dX7_hang_0 : decode cX7_hang 0 = .ok (.aload_n 0, 1) := by decide +kernel
theorem dX7_hang_1 : decode cX7_hang 1 = .ok (.getfield 20, 3) := by decide +kernel
theorem dX7_hang_4 : decode cX7_hang 4 = .ok (.iload_n 1, 1) := by decide +kernel
theorem dX7_hang_5 : decode cX7_hang 5 = .ok (.invokevirtual 83, 3) := by decide +kernel
theorem dX7_hang_8 : decode cX7_hang 8 = .ok (.ifCond .ne 5, 3) := by decide +kernel
theorem dX7_hang_11 : decode cX7_hang 11 = .ok (.iconst (-1), 1) := by decide +kernel
theorem dX7_hang_12 : decode cX7_hang 12 = .ok (.ireturn, 1) := by decide +kernel
theorem dX7_hang_13 : decode cX7_hang 13 = .ok (.aload_n 0, 1) := by decide +kernel
theorem dX7_hang_14 : decode cX7_hang 14 = .ok (.getfield 20, 3) := by decide +kernel
theorem dX7_hang_17 : decode cX7_hang 17 = .ok (.getfield 86, 3) := by decide +kernel
theorem dX7_hang_20 : decode cX7_hang 20 = .ok (.iload_n 1, 1) := by decide +kernel
theorem dX7_hang_21 : decode cX7_hang 21 = .ok (.aaload, 1) := by decide +kernel
theorem dX7_hang_22 : decode cX7_hang 22 = .ok (.astore_n 3, 1) := by decide +kernel
theorem dX7_hang_23 : decode cX7_hang 23 = .ok (.aload_n 3, 1) := by decide +kernel
theorem dX7_hang_24 : decode cX7_hang 24 = .ok (.getfield 104, 3) := by decide +kernel
theorem dX7_hang_27 : decode cX7_hang 27 = .ok (.istore 4, 2) := by decide +kernel
theorem dX7_hang_29 : decode cX7_hang 29 = .ok (.aload_n 3, 1) := by decide +kernel
theorem dX7_hang_30 : decode cX7_hang 30 = .ok (.iload_n 2, 1) := by decide +kernel
theorem dX7_hang_31 : decode cX7_hang 31 = .ok (.putfield 104, 3) := by decide +kernel
theorem dX7_hang_34 : decode cX7_hang 34 = .ok (.iload 4, 2) := by decide +kernel
theorem dX7_hang_36 : decode cX7_hang 36 = .ok (.iload_n 2, 1) := by decide +kernel
theorem dX7_hang_37 : decode cX7_hang 37 = .ok (.if_icmp .ne 7, 3) := by decide +kernel
theorem dX7_hang_40 : decode cX7_hang 40 = .ok (.iconst 0, 1) := by decide +kernel
theorem dX7_hang_41 : decode cX7_hang 41 = .ok (.goto 4, 3) := by decide +kernel
theorem dX7_hang_44 : decode cX7_hang 44 = .ok (.iconst 1, 1) := by decide +kernel
theorem dX7_hang_45 : decode cX7_hang 45 = .ok (.ireturn, 1) := by decide +kernel
set_option maxRecDepth 20000 in
theorem ggX7_coat_X7_isKind : GoodIn wsX7_coat wsX7_isKind := goodIn_r _ [6, 7, 8, 5, 9] (by decide +kernel) (by decide +kernel)
set_option maxRecDepth 20000 in
theorem gX7_coat_X7_isKind : GoodIn wsX7_coat (va_wsS RX7 129 yX7_isKind wsX7_isKind) := goodIn_app (goodIn_of _ (by decide +kernel)) ggX7_coat_X7_isKind
set_option maxRecDepth 20000 in
theorem ggX7_coat_X7_areWithin : GoodIn wsX7_coat wsX7_areWithin := goodIn_r _ [12, 7, 8, 5, 9] (by decide +kernel) (by decide +kernel)
set_option maxRecDepth 20000 in
theorem gX7_coat_X7_areWithin : GoodIn wsX7_coat (va_wsS RX7 132 yX7_areWithin wsX7_areWithin) := goodIn_app (goodIn_of _ (by decide +kernel)) ggX7_coat_X7_areWithin
set_option maxRecDepth 20000 in
theorem ggX7_coat_X6_stands : GoodIn wsX7_coat wsX6_stands := goodIn_r _ [17, 18, 34, 35, 36, 37, 38, 39, 40, 41, 42, 43, 44] (by decide +kernel) (by decide +kernel)
set_option maxRecDepth 20000 in
theorem gX7_coat_X6_stands : GoodIn wsX7_coat (wsV RX7 112 RX6 yX6_stands wsX6_stands) := goodIn_app (goodIn_of _ (by decide +kernel)) ggX7_coat_X6_stands
set_option maxRecDepth 20000 in
theorem ggX7_coat_X6_addCoat : GoodIn wsX7_coat wsX6_addCoat := goodIn_r _ [22, 23, 24, 25, 26, 34, 35, 36, 37, 38, 39, 40, 41, 42, 43, 44, 45, 46] (by decide +kernel) (by decide +kernel)
set_option maxRecDepth 20000 in
theorem gX7_coat_X6_addCoat : GoodIn wsX7_coat (wsV RX7 139 RX6 yX6_addCoat wsX6_addCoat) := goodIn_app (goodIn_of _ (by decide +kernel)) ggX7_coat_X6_addCoat
theorem dX7_coat_0 : decode cX7_coat 0 = .ok (.iload_n 1, 1) := by decide +kernel
theorem dX7_coat_1 : decode cX7_coat 1 = .ok (.invokestatic 129, 3) := by decide +kernel
theorem dX7_coat_4 : decode cX7_coat 4 = .ok (.ifCond .eq 15, 3) := by decide +kernel
theorem dX7_coat_7 : decode cX7_coat 7 = .ok (.iload_n 2, 1) := by decide +kernel
theorem dX7_coat_8 : decode cX7_coat 8 = .ok (.iload_n 3, 1) := by decide +kernel
theorem dX7_coat_9 : decode cX7_coat 9 = .ok (.iload 4, 2) := by decide +kernel
theorem dX7_coat_11 : decode cX7_coat 11 = .ok (.bipush 99, 2) := by decide +kernel
theorem dX7_coat_13 : decode cX7_coat 13 = .ok (.invokestatic 132, 3) := by decide +kernel
theorem dX7_coat_16 : decode cX7_coat 16 = .ok (.ifCond .ne 6, 3) := by decide +kernel
theorem dX7_coat_19 : decode cX7_coat 19 = .ok (.bipush (-2), 2) := by decide +kernel
theorem dX7_coat_21 : decode cX7_coat 21 = .ok (.ireturn, 1) := by decide +kernel
theorem dX7_coat_22 : decode cX7_coat 22 = .ok (.aload_n 0, 1) := by decide +kernel
theorem dX7_coat_23 : decode cX7_coat 23 = .ok (.getfield 20, 3) := by decide +kernel
theorem dX7_coat_26 : decode cX7_coat 26 = .ok (.invokevirtual 112, 3) := by decide +kernel
theorem dX7_coat_29 : decode cX7_coat 29 = .ok (.ifCond .ne 6, 3) := by decide +kernel
theorem dX7_coat_32 : decode cX7_coat 32 = .ok (.bipush (-3), 2) := by decide +kernel
theorem dX7_coat_34 : decode cX7_coat 34 = .ok (.ireturn, 1) := by decide +kernel
theorem dX7_coat_35 : decode cX7_coat 35 = .ok (.aload_n 0, 1) := by decide +kernel
theorem dX7_coat_36 : decode cX7_coat 36 = .ok (.getfield 20, 3) := by decide +kernel
theorem dX7_coat_39 : decode cX7_coat 39 = .ok (.getfield 136, 3) := by decide +kernel
theorem dX7_coat_42 : decode cX7_coat 42 = .ok (.bipush 6, 2) := by decide +kernel
theorem dX7_coat_44 : decode cX7_coat 44 = .ok (.if_icmp .lt 6, 3) := by decide +kernel
theorem dX7_coat_47 : decode cX7_coat 47 = .ok (.bipush (-4), 2) := by decide +kernel
theorem dX7_coat_49 : decode cX7_coat 49 = .ok (.ireturn, 1) := by decide +kernel
theorem dX7_coat_50 : decode cX7_coat 50 = .ok (.aload_n 0, 1) := by decide +kernel
theorem dX7_coat_51 : decode cX7_coat 51 = .ok (.getfield 20, 3) := by decide +kernel
theorem dX7_coat_54 : decode cX7_coat 54 = .ok (.iload_n 1, 1) := by decide +kernel
theorem dX7_coat_55 : decode cX7_coat 55 = .ok (.iload_n 2, 1) := by decide +kernel
theorem dX7_coat_56 : decode cX7_coat 56 = .ok (.iload_n 3, 1) := by decide +kernel
theorem dX7_coat_57 : decode cX7_coat 57 = .ok (.iload 4, 2) := by decide +kernel
theorem dX7_coat_59 : decode cX7_coat 59 = .ok (.invokevirtual 139, 3) := by decide +kernel
theorem dX7_coat_62 : decode cX7_coat 62 = .ok (.ireturn, 1) := by decide +kernel
set_option maxRecDepth 20000 in
theorem ggX7_ofCoat_X6_hasCoat : GoodIn wsX7_ofCoat wsX6_hasCoat := goodIn_r _ [9, 10, 22, 23, 24, 25, 26, 27, 28, 29, 30, 31, 32] (by decide +kernel) (by decide +kernel)
set_option maxRecDepth 20000 in
theorem gX7_ofCoat_X6_hasCoat : GoodIn wsX7_ofCoat (wsV RX7 143 RX6 yX6_hasCoat wsX6_hasCoat) := goodIn_app (goodIn_of _ (by decide +kernel)) ggX7_ofCoat_X6_hasCoat
set_option maxRecDepth 20000 in
theorem ggX7_ofCoat_X7_isWithin : GoodIn wsX7_ofCoat wsX7_isWithin := goodIn_r _ [14] (by decide +kernel) (by decide +kernel)
set_option maxRecDepth 20000 in
theorem gX7_ofCoat_X7_isWithin : GoodIn wsX7_ofCoat (va_wsS RX7 108 yX7_isWithin wsX7_isWithin) := goodIn_app (goodIn_of _ (by decide +kernel)) ggX7_ofCoat_X7_isWithin
theorem dX7_ofCoat_0 : decode cX7_ofCoat 0 = .ok (.aload_n 0, 1) := by decide +kernel
theorem dX7_ofCoat_1 : decode cX7_ofCoat 1 = .ok (.getfield 20, 3) := by decide +kernel
theorem dX7_ofCoat_4 : decode cX7_ofCoat 4 = .ok (.iload_n 1, 1) := by decide +kernel
theorem dX7_ofCoat_5 : decode cX7_ofCoat 5 = .ok (.invokevirtual 143, 3) := by decide +kernel
theorem dX7_ofCoat_8 : decode cX7_ofCoat 8 = .ok (.ifCond .ne 5, 3) := by decide +kernel
theorem dX7_ofCoat_11 : decode cX7_ofCoat 11 = .ok (.iconst (-1), 1) := by decide +kernel
theorem dX7_ofCoat_12 : decode cX7_ofCoat 12 = .ok (.ireturn, 1) := by decide +kernel
theorem dX7_ofCoat_13 : decode cX7_ofCoat 13 = .ok (.iload_n 2, 1) := by decide +kernel
theorem dX7_ofCoat_14 : decode cX7_ofCoat 14 = .ok (.iconst (-1), 1) := by decide +kernel
theorem dX7_ofCoat_15 : decode cX7_ofCoat 15 = .ok (.iconst 2, 1) := by decide +kernel
theorem dX7_ofCoat_16 : decode cX7_ofCoat 16 = .ok (.invokestatic 108, 3) := by decide +kernel
theorem dX7_ofCoat_19 : decode cX7_ofCoat 19 = .ok (.ifCond .ne 6, 3) := by decide +kernel
theorem dX7_ofCoat_22 : decode cX7_ofCoat 22 = .ok (.bipush (-2), 2) := by decide +kernel
theorem dX7_ofCoat_24 : decode cX7_ofCoat 24 = .ok (.ireturn, 1) := by decide +kernel
theorem dX7_ofCoat_25 : decode cX7_ofCoat 25 = .ok (.aload_n 0, 1) := by decide +kernel
theorem dX7_ofCoat_26 : decode cX7_ofCoat 26 = .ok (.getfield 20, 3) := by decide +kernel
theorem dX7_ofCoat_29 : decode cX7_ofCoat 29 = .ok (.getfield 146, 3) := by decide +kernel
theorem dX7_ofCoat_32 : decode cX7_ofCoat 32 = .ok (.iload_n 1, 1) := by decide +kernel
theorem dX7_ofCoat_33 : decode cX7_ofCoat 33 = .ok (.aaload, 1) := by decide +kernel
theorem dX7_ofCoat_34 : decode cX7_ofCoat 34 = .ok (.astore_n 3, 1) := by decide +kernel
theorem dX7_ofCoat_35 : decode cX7_ofCoat 35 = .ok (.iload_n 2, 1) := by decide +kernel
theorem dX7_ofCoat_36 : decode cX7_ofCoat 36 = .ok (.ifCond .ge 10, 3) := by decide +kernel
theorem dX7_ofCoat_39 : decode cX7_ofCoat 39 = .ok (.aload_n 3, 1) := by decide +kernel
theorem dX7_ofCoat_40 : decode cX7_ofCoat 40 = .ok (.getfield 150, 3) := by decide +kernel
theorem dX7_ofCoat_43 : decode cX7_ofCoat 43 = .ok (.goto 9, 3) := by decide +kernel
theorem dX7_ofCoat_46 : decode cX7_ofCoat 46 = .ok (.aload_n 3, 1) := by decide +kernel
theorem dX7_ofCoat_47 : decode cX7_ofCoat 47 = .ok (.getfield 155, 3) := by decide +kernel
theorem dX7_ofCoat_50 : decode cX7_ofCoat 50 = .ok (.iload_n 2, 1) := by decide +kernel
theorem dX7_ofCoat_51 : decode cX7_ofCoat 51 = .ok (.iaload, 1) := by decide +kernel
theorem dX7_ofCoat_52 : decode cX7_ofCoat 52 = .ok (.ireturn, 1) := by decide +kernel
set_option maxRecDepth 20000 in
theorem ggX7_paint_X6_hasCell : GoodIn wsX7_paint wsX6_hasCell := goodIn_r _ [8, 9, 30, 31, 32, 33, 34, 35, 36, 37, 38, 39, 40] (by decide +kernel) (by decide +kernel)
set_option maxRecDepth 20000 in
theorem gX7_paint_X6_hasCell : GoodIn wsX7_paint (wsV RX7 83 RX6 yX6_hasCell wsX6_hasCell) := goodIn_app (goodIn_of _ (by decide +kernel)) ggX7_paint_X6_hasCell
set_option maxRecDepth 20000 in
theorem ggX7_paint_X6_hasCoat : GoodIn wsX7_paint wsX6_hasCoat := goodIn_r _ [13, 14, 30, 31, 32, 33, 34, 35, 36, 37, 38, 39, 40] (by decide +kernel) (by decide +kernel)
set_option maxRecDepth 20000 in
theorem gX7_paint_X6_hasCoat : GoodIn wsX7_paint (wsV RX7 143 RX6 yX6_hasCoat wsX6_hasCoat) := goodIn_app (goodIn_of _ (by decide +kernel)) ggX7_paint_X6_hasCoat
set_option maxRecDepth 20000 in
theorem ggX7_paint_X0_takeFresh : GoodIn wsX7_paint wsX0_takeFresh := goodIn_r _ [19, 20, 21, 22, 41, 42, 43, 44, 45] (by decide +kernel) (by decide +kernel)
set_option maxRecDepth 20000 in
theorem gX7_paint_X0_takeFresh : GoodIn wsX7_paint (wsV RX7 159 RX0 yX0_takeFresh wsX0_takeFresh) := goodIn_app (goodIn_of _ (by decide +kernel)) ggX7_paint_X0_takeFresh
theorem dX7_paint_0 : decode cX7_paint 0 = .ok (.aload_n 0, 1) := by decide +kernel
theorem dX7_paint_1 : decode cX7_paint 1 = .ok (.getfield 20, 3) := by decide +kernel
theorem dX7_paint_4 : decode cX7_paint 4 = .ok (.iload_n 1, 1) := by decide +kernel
theorem dX7_paint_5 : decode cX7_paint 5 = .ok (.invokevirtual 83, 3) := by decide +kernel
theorem dX7_paint_8 : decode cX7_paint 8 = .ok (.ifCond .eq 14, 3) := by decide +kernel
theorem dX7_paint_11 : decode cX7_paint 11 = .ok (.aload_n 0, 1) := by decide +kernel
theorem dX7_paint_12 : decode cX7_paint 12 = .ok (.getfield 20, 3) := by decide +kernel
theorem dX7_paint_15 : decode cX7_paint 15 = .ok (.iload_n 2, 1) := by decide +kernel
theorem dX7_paint_16 : decode cX7_paint 16 = .ok (.invokevirtual 143, 3) := by decide +kernel
theorem dX7_paint_19 : decode cX7_paint 19 = .ok (.ifCond .ne 5, 3) := by decide +kernel
theorem dX7_paint_22 : decode cX7_paint 22 = .ok (.iconst (-1), 1) := by decide +kernel
theorem dX7_paint_23 : decode cX7_paint 23 = .ok (.ireturn, 1) := by decide +kernel
theorem dX7_paint_24 : decode cX7_paint 24 = .ok (.aload_n 0, 1) := by decide +kernel
theorem dX7_paint_25 : decode cX7_paint 25 = .ok (.getfield 20, 3) := by decide +kernel
theorem dX7_paint_28 : decode cX7_paint 28 = .ok (.getfield 86, 3) := by decide +kernel
theorem dX7_paint_31 : decode cX7_paint 31 = .ok (.iload_n 1, 1) := by decide +kernel
theorem dX7_paint_32 : decode cX7_paint 32 = .ok (.aaload, 1) := by decide +kernel
theorem dX7_paint_33 : decode cX7_paint 33 = .ok (.astore_n 3, 1) := by decide +kernel
theorem dX7_paint_34 : decode cX7_paint 34 = .ok (.aload_n 3, 1) := by decide +kernel
theorem dX7_paint_35 : decode cX7_paint 35 = .ok (.getfield 95, 3) := by decide +kernel
theorem dX7_paint_38 : decode cX7_paint 38 = .ok (.istore 4, 2) := by decide +kernel
theorem dX7_paint_40 : decode cX7_paint 40 = .ok (.aload_n 3, 1) := by decide +kernel
theorem dX7_paint_41 : decode cX7_paint 41 = .ok (.iload_n 2, 1) := by decide +kernel
theorem dX7_paint_42 : decode cX7_paint 42 = .ok (.invokevirtual 159, 3) := by decide +kernel
theorem dX7_paint_45 : decode cX7_paint 45 = .ok (.iload 4, 2) := by decide +kernel
theorem dX7_paint_47 : decode cX7_paint 47 = .ok (.ireturn, 1) := by decide +kernel
set_option maxRecDepth 20000 in
theorem ggX7_back_X6_hasCell : GoodIn wsX7_back wsX6_hasCell := goodIn_r _ [12, 13, 40, 41, 42, 43, 44, 45, 46, 47, 48, 49, 50] (by decide +kernel) (by decide +kernel)
set_option maxRecDepth 20000 in
theorem gX7_back_X6_hasCell : GoodIn wsX7_back (wsV RX7 83 RX6 yX6_hasCell wsX6_hasCell) := goodIn_app (goodIn_of _ (by decide +kernel)) ggX7_back_X6_hasCell
set_option maxRecDepth 20000 in
theorem ggX7_back_X7_isWithin : GoodIn wsX7_back wsX7_isWithin := goodIn_r _ [17] (by decide +kernel) (by decide +kernel)
set_option maxRecDepth 20000 in
theorem gX7_back_X7_isWithin : GoodIn wsX7_back (va_wsS RX7 108 yX7_isWithin wsX7_isWithin) := goodIn_app (goodIn_of _ (by decide +kernel)) ggX7_back_X7_isWithin
set_option maxRecDepth 20000 in
theorem ggX7_back_X1_comesBack : GoodIn wsX7_back wsX1_comesBack := goodIn_r _ [22, 23, 24, 25, 26, 27, 28, 29, 30, 31, 21, 32, 56, 57] (by decide +kernel) (by decide +kernel)
set_option maxRecDepth 20000 in
theorem gX7_back_X1_comesBack : GoodIn wsX7_back (wsV RX7 162 RX1 yX1_comesBack wsX1_comesBack) := goodIn_app (goodIn_of _ (by decide +kernel)) ggX7_back_X1_comesBack
theorem dX7_back_0 : decode cX7_back 0 = .ok (.aload_n 0, 1) := by decide +kernel
theorem dX7_back_1 : decode cX7_back 1 = .ok (.getfield 20, 3) := by decide +kernel
theorem dX7_back_4 : decode cX7_back 4 = .ok (.iload_n 1, 1) := by decide +kernel
theorem dX7_back_5 : decode cX7_back 5 = .ok (.invokevirtual 83, 3) := by decide +kernel
theorem dX7_back_8 : decode cX7_back 8 = .ok (.ifCond .ne 5, 3) := by decide +kernel
theorem dX7_back_11 : decode cX7_back 11 = .ok (.iconst (-1), 1) := by decide +kernel
theorem dX7_back_12 : decode cX7_back 12 = .ok (.ireturn, 1) := by decide +kernel
theorem dX7_back_13 : decode cX7_back 13 = .ok (.iload_n 2, 1) := by decide +kernel
theorem dX7_back_14 : decode cX7_back 14 = .ok (.iconst 0, 1) := by decide +kernel
theorem dX7_back_15 : decode cX7_back 15 = .ok (.iconst 2, 1) := by decide +kernel
theorem dX7_back_16 : decode cX7_back 16 = .ok (.invokestatic 108, 3) := by decide +kernel
theorem dX7_back_19 : decode cX7_back 19 = .ok (.ifCond .ne 6, 3) := by decide +kernel
theorem dX7_back_22 : decode cX7_back 22 = .ok (.bipush (-2), 2) := by decide +kernel
theorem dX7_back_24 : decode cX7_back 24 = .ok (.ireturn, 1) := by decide +kernel
theorem dX7_back_25 : decode cX7_back 25 = .ok (.aload_n 0, 1) := by decide +kernel
theorem dX7_back_26 : decode cX7_back 26 = .ok (.getfield 20, 3) := by decide +kernel
theorem dX7_back_29 : decode cX7_back 29 = .ok (.getfield 86, 3) := by decide +kernel
theorem dX7_back_32 : decode cX7_back 32 = .ok (.iload_n 1, 1) := by decide +kernel
theorem dX7_back_33 : decode cX7_back 33 = .ok (.aaload, 1) := by decide +kernel
theorem dX7_back_34 : decode cX7_back 34 = .ok (.astore 4, 2) := by decide +kernel
theorem dX7_back_36 : decode cX7_back 36 = .ok (.aload_n 0, 1) := by decide +kernel
theorem dX7_back_37 : decode cX7_back 37 = .ok (.getfield 20, 3) := by decide +kernel
theorem dX7_back_40 : decode cX7_back 40 = .ok (.getfield 146, 3) := by decide +kernel
theorem dX7_back_43 : decode cX7_back 43 = .ok (.aload 4, 2) := by decide +kernel
theorem dX7_back_45 : decode cX7_back 45 = .ok (.getfield 95, 3) := by decide +kernel
theorem dX7_back_48 : decode cX7_back 48 = .ok (.aaload, 1) := by decide +kernel
theorem dX7_back_49 : decode cX7_back 49 = .ok (.iload_n 2, 1) := by decide +kernel
theorem dX7_back_50 : decode cX7_back 50 = .ok (.aload 4, 2) := by decide +kernel
theorem dX7_back_52 : decode cX7_back 52 = .ok (.getfield 98, 3) := by decide +kernel
theorem dX7_back_55 : decode cX7_back 55 = .ok (.aload 4, 2) := by decide +kernel
theorem dX7_back_57 : decode cX7_back 57 = .ok (.getfield 101, 3) := by decide +kernel
theorem dX7_back_60 : decode cX7_back 60 = .ok (.aload_n 0, 1) := by decide +kernel
theorem dX7_back_61 : decode cX7_back 61 = .ok (.getfield 20, 3) := by decide +kernel
theorem dX7_back_64 : decode cX7_back 64 = .ok (.getfield 116, 3) := by decide +kernel
theorem dX7_back_67 : decode cX7_back 67 = .ok (.iload_n 3, 1) := by decide +kernel
theorem dX7_back_68 : decode cX7_back 68 = .ok (.invokevirtual 162, 3) := by decide +kernel
theorem dX7_back_71 : decode cX7_back 71 = .ok (.ireturn, 1) := by decide +kernel
set_option maxRecDepth 20000 in
theorem ggX7_light_X7_areWithin : GoodIn wsX7_light wsX7_areWithin := goodIn_r _ [6, 7, 8, 5, 9] (by decide +kernel) (by decide +kernel)
set_option maxRecDepth 20000 in
theorem gX7_light_X7_areWithin : GoodIn wsX7_light (va_wsS RX7 132 yX7_areWithin wsX7_areWithin) := goodIn_app (goodIn_of _ (by decide +kernel)) ggX7_light_X7_areWithin
set_option maxRecDepth 20000 in
theorem ggX7_light_X6_stands : GoodIn wsX7_light wsX6_stands := goodIn_r _ [14, 15, 29, 30, 31, 32, 33, 34, 35, 36, 37, 38, 39] (by decide +kernel) (by decide +kernel)
set_option maxRecDepth 20000 in
theorem gX7_light_X6_stands : GoodIn wsX7_light (wsV RX7 112 RX6 yX6_stands wsX6_stands) := goodIn_app (goodIn_of _ (by decide +kernel)) ggX7_light_X6_stands
set_option maxRecDepth 20000 in
theorem ggX7_light_X6_addLight : GoodIn wsX7_light wsX6_addLight := goodIn_r _ [19, 20, 21, 29, 30, 31, 32, 33, 34, 35, 36, 37, 38, 39] (by decide +kernel) (by decide +kernel)
set_option maxRecDepth 20000 in
theorem gX7_light_X6_addLight : GoodIn wsX7_light (wsV RX7 169 RX6 yX6_addLight wsX6_addLight) := goodIn_app (goodIn_of _ (by decide +kernel)) ggX7_light_X6_addLight
theorem dX7_light_0 : decode cX7_light 0 = .ok (.iload_n 1, 1) := by decide +kernel
theorem dX7_light_1 : decode cX7_light 1 = .ok (.iload_n 2, 1) := by decide +kernel
theorem dX7_light_2 : decode cX7_light 2 = .ok (.iload_n 3, 1) := by decide +kernel
theorem dX7_light_3 : decode cX7_light 3 = .ok (.bipush 9, 2) := by decide +kernel
theorem dX7_light_5 : decode cX7_light 5 = .ok (.invokestatic 132, 3) := by decide +kernel
theorem dX7_light_8 : decode cX7_light 8 = .ok (.ifCond .ne 6, 3) := by decide +kernel
theorem dX7_light_11 : decode cX7_light 11 = .ok (.bipush (-2), 2) := by decide +kernel
theorem dX7_light_13 : decode cX7_light 13 = .ok (.ireturn, 1) := by decide +kernel
theorem dX7_light_14 : decode cX7_light 14 = .ok (.aload_n 0, 1) := by decide +kernel
theorem dX7_light_15 : decode cX7_light 15 = .ok (.getfield 20, 3) := by decide +kernel
theorem dX7_light_18 : decode cX7_light 18 = .ok (.invokevirtual 112, 3) := by decide +kernel
theorem dX7_light_21 : decode cX7_light 21 = .ok (.ifCond .ne 6, 3) := by decide +kernel
theorem dX7_light_24 : decode cX7_light 24 = .ok (.bipush (-3), 2) := by decide +kernel
theorem dX7_light_26 : decode cX7_light 26 = .ok (.ireturn, 1) := by decide +kernel
theorem dX7_light_27 : decode cX7_light 27 = .ok (.aload_n 0, 1) := by decide +kernel
theorem dX7_light_28 : decode cX7_light 28 = .ok (.getfield 20, 3) := by decide +kernel
theorem dX7_light_31 : decode cX7_light 31 = .ok (.getfield 166, 3) := by decide +kernel
theorem dX7_light_34 : decode cX7_light 34 = .ok (.iconst 4, 1) := by decide +kernel
theorem dX7_light_35 : decode cX7_light 35 = .ok (.if_icmp .lt 6, 3) := by decide +kernel
theorem dX7_light_38 : decode cX7_light 38 = .ok (.bipush (-4), 2) := by decide +kernel
theorem dX7_light_40 : decode cX7_light 40 = .ok (.ireturn, 1) := by decide +kernel
theorem dX7_light_41 : decode cX7_light 41 = .ok (.aload_n 0, 1) := by decide +kernel
theorem dX7_light_42 : decode cX7_light 42 = .ok (.getfield 20, 3) := by decide +kernel
theorem dX7_light_45 : decode cX7_light 45 = .ok (.iload_n 1, 1) := by decide +kernel
theorem dX7_light_46 : decode cX7_light 46 = .ok (.iload_n 2, 1) := by decide +kernel
theorem dX7_light_47 : decode cX7_light 47 = .ok (.iload_n 3, 1) := by decide +kernel
theorem dX7_light_48 : decode cX7_light 48 = .ok (.invokevirtual 169, 3) := by decide +kernel
theorem dX7_light_51 : decode cX7_light 51 = .ok (.ireturn, 1) := by decide +kernel
set_option maxRecDepth 20000 in
theorem ggX7_look_X6_hasCell : GoodIn wsX7_look wsX6_hasCell := goodIn_r _ [6, 7, 50, 51, 52, 53, 54, 55, 56, 57, 58, 59, 60] (by decide +kernel) (by decide +kernel)
set_option maxRecDepth 20000 in
theorem gX7_look_X6_hasCell : GoodIn wsX7_look (wsV RX7 83 RX6 yX6_hasCell wsX6_hasCell) := goodIn_app (goodIn_of _ (by decide +kernel)) ggX7_look_X6_hasCell
set_option maxRecDepth 20000 in
theorem ggX7_look_X6_hasLight : GoodIn wsX7_look wsX6_hasLight := goodIn_r _ [11, 12, 50, 51, 52, 53, 54, 55, 56, 57, 58, 59, 60] (by decide +kernel) (by decide +kernel)
set_option maxRecDepth 20000 in
theorem gX7_look_X6_hasLight : GoodIn wsX7_look (wsV RX7 173 RX6 yX6_hasLight wsX6_hasLight) := goodIn_app (goodIn_of _ (by decide +kernel)) ggX7_look_X6_hasLight
set_option maxRecDepth 20000 in
theorem ggX7_look_X6_lookOfCell : GoodIn wsX7_look wsX6_lookOfCell := goodIn_r _ [16, 17, 18, 19, 20, 21, 22, 23, 24, 5, 25, 26, 27, 28, 29, 30, 31, 32, 33, 34, 35, 36, 37, 38, 39, 40, 41, 42, 50, 51, 52, 53, 54, 55, 56, 57, 58, 59, 60, 61, 62, 63, 64, 65, 66, 67] (by decide +kernel) (by decide +kernel)
set_option maxRecDepth 20000 in
theorem gX7_look_X6_lookOfCell : GoodIn wsX7_look (wsV RX7 176 RX6 yX6_lookOfCell wsX6_lookOfCell) := goodIn_app (goodIn_of _ (by decide +kernel)) ggX7_look_X6_lookOfCell
theorem dX7_look_0 : decode cX7_look 0 = .ok (.aload_n 0, 1) := by decide +kernel
theorem dX7_look_1 : decode cX7_look 1 = .ok (.getfield 20, 3) := by decide +kernel
theorem dX7_look_4 : decode cX7_look 4 = .ok (.iload_n 1, 1) := by decide +kernel
theorem dX7_look_5 : decode cX7_look 5 = .ok (.invokevirtual 83, 3) := by decide +kernel
theorem dX7_look_8 : decode cX7_look 8 = .ok (.ifCond .eq 14, 3) := by decide +kernel
theorem dX7_look_11 : decode cX7_look 11 = .ok (.aload_n 0, 1) := by decide +kernel
theorem dX7_look_12 : decode cX7_look 12 = .ok (.getfield 20, 3) := by decide +kernel
theorem dX7_look_15 : decode cX7_look 15 = .ok (.iload_n 2, 1) := by decide +kernel
theorem dX7_look_16 : decode cX7_look 16 = .ok (.invokevirtual 173, 3) := by decide +kernel
theorem dX7_look_19 : decode cX7_look 19 = .ok (.ifCond .ne 5, 3) := by decide +kernel
theorem dX7_look_22 : decode cX7_look 22 = .ok (.iconst (-1), 1) := by decide +kernel
theorem dX7_look_23 : decode cX7_look 23 = .ok (.ireturn, 1) := by decide +kernel
theorem dX7_look_24 : decode cX7_look 24 = .ok (.aload_n 0, 1) := by decide +kernel
theorem dX7_look_25 : decode cX7_look 25 = .ok (.getfield 20, 3) := by decide +kernel
theorem dX7_look_28 : decode cX7_look 28 = .ok (.iload_n 1, 1) := by decide +kernel
theorem dX7_look_29 : decode cX7_look 29 = .ok (.iload_n 2, 1) := by decide +kernel
theorem dX7_look_30 : decode cX7_look 30 = .ok (.iload_n 3, 1) := by decide +kernel
theorem dX7_look_31 : decode cX7_look 31 = .ok (.invokevirtual 176, 3) := by decide +kernel
theorem dX7_look_34 : decode cX7_look 34 = .ok (.ireturn, 1) := by decide +kernel
set_option maxRecDepth 20000 in
theorem ggX7_unlike_X6_hasCell : GoodIn wsX7_unlike wsX6_hasCell := goodIn_r _ [10, 11, 53, 54, 55, 56, 57, 58, 59, 60, 61, 62, 63] (by decide +kernel) (by decide +kernel)
set_option maxRecDepth 20000 in
theorem gX7_unlike_X6_hasCell : GoodIn wsX7_unlike (wsV RX7 83 RX6 yX6_hasCell wsX6_hasCell) := goodIn_app (goodIn_of _ (by decide +kernel)) ggX7_unlike_X6_hasCell
set_option maxRecDepth 20000 in
theorem ggX7_unlike_X6_hasLight : GoodIn wsX7_unlike wsX6_hasLight := goodIn_r _ [15, 16, 53, 54, 55, 56, 57, 58, 59, 60, 61, 62, 63] (by decide +kernel) (by decide +kernel)
set_option maxRecDepth 20000 in
theorem gX7_unlike_X6_hasLight : GoodIn wsX7_unlike (wsV RX7 173 RX6 yX6_hasLight wsX6_hasLight) := goodIn_app (goodIn_of _ (by decide +kernel)) ggX7_unlike_X6_hasLight
set_option maxRecDepth 20000 in
theorem ggX7_unlike_X6_lookOfCell : GoodIn wsX7_unlike wsX6_lookOfCell := goodIn_r _ [20, 21, 22, 23, 24, 25, 26, 27, 28, 9, 29, 30, 31, 32, 33, 34, 35, 36, 37, 38, 39, 4, 40, 41, 42, 43, 44, 45, 53, 54, 55, 56, 57, 58, 59, 60, 61, 62, 63, 64, 65, 66, 67, 68, 69, 70] (by decide +kernel) (by decide +kernel)
set_option maxRecDepth 20000 in
theorem gX7_unlike_X6_lookOfCell : GoodIn wsX7_unlike (wsV RX7 176 RX6 yX6_lookOfCell wsX6_lookOfCell) := goodIn_app (goodIn_of _ (by decide +kernel)) ggX7_unlike_X6_lookOfCell
theorem dX7_unlike_0 : decode cX7_unlike 0 = .ok (.aload_n 0, 1) := by decide +kernel
theorem dX7_unlike_1 : decode cX7_unlike 1 = .ok (.getfield 20, 3) := by decide +kernel
theorem dX7_unlike_4 : decode cX7_unlike 4 = .ok (.iload_n 1, 1) := by decide +kernel
theorem dX7_unlike_5 : decode cX7_unlike 5 = .ok (.invokevirtual 83, 3) := by decide +kernel
theorem dX7_unlike_8 : decode cX7_unlike 8 = .ok (.ifCond .eq 25, 3) := by decide +kernel
theorem dX7_unlike_11 : decode cX7_unlike 11 = .ok (.aload_n 0, 1) := by decide +kernel
theorem dX7_unlike_12 : decode cX7_unlike 12 = .ok (.getfield 20, 3) := by decide +kernel
theorem dX7_unlike_15 : decode cX7_unlike 15 = .ok (.iload_n 2, 1) := by decide +kernel
theorem dX7_unlike_16 : decode cX7_unlike 16 = .ok (.invokevirtual 83, 3) := by decide +kernel
theorem dX7_unlike_19 : decode cX7_unlike 19 = .ok (.ifCond .eq 14, 3) := by decide +kernel
theorem dX7_unlike_22 : decode cX7_unlike 22 = .ok (.aload_n 0, 1) := by decide +kernel
theorem dX7_unlike_23 : decode cX7_unlike 23 = .ok (.getfield 20, 3) := by decide +kernel
theorem dX7_unlike_26 : decode cX7_unlike 26 = .ok (.iload_n 3, 1) := by decide +kernel
theorem dX7_unlike_27 : decode cX7_unlike 27 = .ok (.invokevirtual 173, 3) := by decide +kernel
theorem dX7_unlike_30 : decode cX7_unlike 30 = .ok (.ifCond .ne 5, 3) := by decide +kernel
theorem dX7_unlike_33 : decode cX7_unlike 33 = .ok (.iconst (-1), 1) := by decide +kernel
theorem dX7_unlike_34 : decode cX7_unlike 34 = .ok (.ireturn, 1) := by decide +kernel
theorem dX7_unlike_35 : decode cX7_unlike 35 = .ok (.aload_n 0, 1) := by decide +kernel
theorem dX7_unlike_36 : decode cX7_unlike 36 = .ok (.getfield 20, 3) := by decide +kernel
theorem dX7_unlike_39 : decode cX7_unlike 39 = .ok (.iload_n 1, 1) := by decide +kernel
theorem dX7_unlike_40 : decode cX7_unlike 40 = .ok (.iload_n 3, 1) := by decide +kernel
theorem dX7_unlike_41 : decode cX7_unlike 41 = .ok (.iload 4, 2) := by decide +kernel
theorem dX7_unlike_43 : decode cX7_unlike 43 = .ok (.invokevirtual 176, 3) := by decide +kernel
theorem dX7_unlike_46 : decode cX7_unlike 46 = .ok (.aload_n 0, 1) := by decide +kernel
theorem dX7_unlike_47 : decode cX7_unlike 47 = .ok (.getfield 20, 3) := by decide +kernel
theorem dX7_unlike_50 : decode cX7_unlike 50 = .ok (.iload_n 2, 1) := by decide +kernel
theorem dX7_unlike_51 : decode cX7_unlike 51 = .ok (.iload_n 3, 1) := by decide +kernel
theorem dX7_unlike_52 : decode cX7_unlike 52 = .ok (.iload 4, 2) := by decide +kernel
theorem dX7_unlike_54 : decode cX7_unlike 54 = .ok (.invokevirtual 176, 3) := by decide +kernel
theorem dX7_unlike_57 : decode cX7_unlike 57 = .ok (.isub, 1) := by decide +kernel
theorem dX7_unlike_58 : decode cX7_unlike 58 = .ok (.invokestatic 180, 3) := by decide +kernel
theorem dX7_unlike_61 : decode cX7_unlike 61 = .ok (.ireturn, 1) := by decide +kernel
set_option maxRecDepth 20000 in
theorem ggX7_seen_X6_hasCell : GoodIn wsX7_seen wsX6_hasCell := goodIn_r _ [7, 8, 94, 95, 96, 97, 98, 99, 100, 101, 102, 103, 104] (by decide +kernel) (by decide +kernel)
set_option maxRecDepth 20000 in
theorem gX7_seen_X6_hasCell : GoodIn wsX7_seen (wsV RX7 83 RX6 yX6_hasCell wsX6_hasCell) := goodIn_app (goodIn_of _ (by decide +kernel)) ggX7_seen_X6_hasCell
set_option maxRecDepth 20000 in
theorem ggX7_seen_X2_takeAsItIs : GoodIn wsX7_seen wsX2_takeAsItIs := goodIn_r _ [13, 14, 15, 16, 17, 18, 19, 6, 20, 21, 22, 23, 24, 25, 26, 27, 28, 29, 30, 31, 32, 33, 34, 35, 36, 37, 38, 39, 40, 41, 42, 43, 44, 45, 46, 47, 48, 49, 50, 51, 52, 53, 54, 12, 55, 56, 105, 106, 107, 94, 95, 96, 97, 98, 99, 100, 101, 102, 103, 104, 108, 109, 110, 111, 112, 113, 114] (by decide +kernel) (by decide +kernel)
set_option maxRecDepth 20000 in
theorem gX7_seen_X2_takeAsItIs : GoodIn wsX7_seen (wsV RX7 185 RX2 yX2_takeAsItIs wsX2_takeAsItIs) := goodIn_app (goodIn_of _ (by decide +kernel)) ggX7_seen_X2_takeAsItIs
set_option maxRecDepth 20000 in
theorem ggX7_seen_X2_countSeen : GoodIn wsX7_seen wsX2_countSeen := goodIn_r _ [60, 14, 15, 61, 62, 63, 12, 64, 65, 66, 67, 68, 6, 69, 70, 71, 72, 73, 74, 56, 16, 75, 76, 45, 77, 78, 17, 18, 19, 20, 21, 79, 80, 81, 82, 105, 106, 107, 94, 95, 96, 97, 98, 99, 100, 101, 102, 103, 104] (by decide +kernel) (by decide +kernel)
set_option maxRecDepth 20000 in
theorem gX7_seen_X2_countSeen : GoodIn wsX7_seen (wsV RX7 188 RX2 yX2_countSeen wsX2_countSeen) := goodIn_app (goodIn_of _ (by decide +kernel)) ggX7_seen_X2_countSeen
set_option maxRecDepth 20000 in
theorem ggX7_seen_X2_countSeenOf : GoodIn wsX7_seen wsX2_countSeenOf := goodIn_r _ [86, 14, 65, 61, 62, 63, 12, 64, 66, 67, 68, 6, 69, 70, 71, 72, 73, 74, 56, 16, 75, 76, 45, 77, 78, 17, 18, 19, 20, 21, 79, 80, 81, 82, 15, 105, 106, 107, 94, 95, 96, 97, 98, 99, 100, 101, 102, 103, 104] (by decide +kernel) (by decide +kernel)
set_option maxRecDepth 20000 in
theorem gX7_seen_X2_countSeenOf : GoodIn wsX7_seen (wsV RX7 192 RX2 yX2_countSeenOf wsX2_countSeenOf) := goodIn_app (goodIn_of _ (by decide +kernel)) ggX7_seen_X2_countSeenOf
theorem dX7_seen_0 : decode cX7_seen 0 = .ok (.iload_n 1, 1) := by decide +kernel
theorem dX7_seen_1 : decode cX7_seen 1 = .ok (.iconst (-1), 1) := by decide +kernel
theorem dX7_seen_2 : decode cX7_seen 2 = .ok (.if_icmp .eq 16, 3) := by decide +kernel
theorem dX7_seen_5 : decode cX7_seen 5 = .ok (.aload_n 0, 1) := by decide +kernel
theorem dX7_seen_6 : decode cX7_seen 6 = .ok (.getfield 20, 3) := by decide +kernel
theorem dX7_seen_9 : decode cX7_seen 9 = .ok (.iload_n 1, 1) := by decide +kernel
theorem dX7_seen_10 : decode cX7_seen 10 = .ok (.invokevirtual 83, 3) := by decide +kernel
theorem dX7_seen_13 : decode cX7_seen 13 = .ok (.ifCond .ne 5, 3) := by decide +kernel
theorem dX7_seen_16 : decode cX7_seen 16 = .ok (.iconst (-1), 1) := by decide +kernel
theorem dX7_seen_17 : decode cX7_seen 17 = .ok (.ireturn, 1) := by decide +kernel
theorem dX7_seen_18 : decode cX7_seen 18 = .ok (.aload_n 0, 1) := by decide +kernel
theorem dX7_seen_19 : decode cX7_seen 19 = .ok (.getfield 29, 3) := by decide +kernel
theorem dX7_seen_22 : decode cX7_seen 22 = .ok (.invokevirtual 185, 3) := by decide +kernel
theorem dX7_seen_25 : decode cX7_seen 25 = .ok (.iload_n 1, 1) := by decide +kernel
theorem dX7_seen_26 : decode cX7_seen 26 = .ok (.iconst (-1), 1) := by decide +kernel
theorem dX7_seen_27 : decode cX7_seen 27 = .ok (.if_icmp .ne 13, 3) := by decide +kernel
theorem dX7_seen_30 : decode cX7_seen 30 = .ok (.aload_n 0, 1) := by decide +kernel
theorem dX7_seen_31 : decode cX7_seen 31 = .ok (.getfield 29, 3) := by decide +kernel
theorem dX7_seen_34 : decode cX7_seen 34 = .ok (.invokevirtual 188, 3) := by decide +kernel
theorem dX7_seen_37 : decode cX7_seen 37 = .ok (.goto 11, 3) := by decide +kernel
theorem dX7_seen_40 : decode cX7_seen 40 = .ok (.aload_n 0, 1) := by decide +kernel
theorem dX7_seen_41 : decode cX7_seen 41 = .ok (.getfield 29, 3) := by decide +kernel
theorem dX7_seen_44 : decode cX7_seen 44 = .ok (.iload_n 1, 1) := by decide +kernel
theorem dX7_seen_45 : decode cX7_seen 45 = .ok (.invokevirtual 192, 3) := by decide +kernel
theorem dX7_seen_48 : decode cX7_seen 48 = .ok (.ireturn, 1) := by decide +kernel
set_option maxRecDepth 20000 in
theorem ggX7_mix_X3_pour : GoodIn wsX7_mix wsX3_pour := goodIn_r _ [10, 11, 73, 74, 75, 76, 77, 78, 79] (by decide +kernel) (by decide +kernel)
set_option maxRecDepth 20000 in
theorem gX7_mix_X3_pour : GoodIn wsX7_mix (wsV RX7 195 RX3 yX3_pour wsX3_pour) := goodIn_app (goodIn_of _ (by decide +kernel)) ggX7_mix_X3_pour
set_option maxRecDepth 20000 in
theorem ggX7_mix_X3_isMix : GoodIn wsX7_mix wsX3_isMix := goodIn_r _ [15, 11, 16, 17, 18, 19, 20, 21, 22, 23, 24, 25, 73, 74, 75, 76, 77, 78, 79, 60, 61, 62, 63, 64, 65, 66, 67, 68, 69, 70] (by decide +kernel) (by decide +kernel)
set_option maxRecDepth 20000 in
theorem gX7_mix_X3_isMix : GoodIn wsX7_mix (wsV RX7 199 RX3 yX3_isMix wsX3_isMix) := goodIn_app (goodIn_of _ (by decide +kernel)) ggX7_mix_X3_isMix
set_option maxRecDepth 20000 in
theorem ggX7_mix_X3_stir : GoodIn wsX7_mix wsX3_stir := goodIn_r _ [29, 30, 31, 32, 33, 11, 16, 34, 35, 36, 37, 38, 39, 40, 9, 41, 42, 43, 44, 45, 73, 74, 75, 76, 77, 78, 79, 60, 61, 62, 63, 64, 65, 66, 67, 68, 69, 70, 71, 72] (by decide +kernel) (by decide +kernel)
set_option maxRecDepth 20000 in
theorem gX7_mix_X3_stir : GoodIn wsX7_mix (wsV RX7 202 RX3 yX3_stir wsX3_stir) := goodIn_app (goodIn_of _ (by decide +kernel)) ggX7_mix_X3_stir
set_option maxRecDepth 20000 in
theorem ggX7_mix_X6_addCoat : GoodIn wsX7_mix wsX6_addCoat := goodIn_r _ [49, 50, 25, 51, 52, 60, 61, 62, 63, 64, 65, 66, 67, 68, 69, 70, 71, 72] (by decide +kernel) (by decide +kernel)
set_option maxRecDepth 20000 in
theorem gX7_mix_X6_addCoat : GoodIn wsX7_mix (wsV RX7 139 RX6 yX6_addCoat wsX6_addCoat) := goodIn_app (goodIn_of _ (by decide +kernel)) ggX7_mix_X6_addCoat
theorem dX7_mix_0 : decode cX7_mix 0 = .ok (.aload_n 0, 1) := by decide +kernel
theorem dX7_mix_1 : decode cX7_mix 1 = .ok (.getfield 36, 3) := by decide +kernel
theorem dX7_mix_4 : decode cX7_mix 4 = .ok (.iload_n 1, 1) := by decide +kernel
theorem dX7_mix_5 : decode cX7_mix 5 = .ok (.iload_n 2, 1) := by decide +kernel
theorem dX7_mix_6 : decode cX7_mix 6 = .ok (.iload_n 3, 1) := by decide +kernel
theorem dX7_mix_7 : decode cX7_mix 7 = .ok (.iload 4, 2) := by decide +kernel
theorem dX7_mix_9 : decode cX7_mix 9 = .ok (.invokevirtual 195, 3) := by decide +kernel
theorem dX7_mix_12 : decode cX7_mix 12 = .ok (.aload_n 0, 1) := by decide +kernel
theorem dX7_mix_13 : decode cX7_mix 13 = .ok (.getfield 36, 3) := by decide +kernel
theorem dX7_mix_16 : decode cX7_mix 16 = .ok (.invokevirtual 199, 3) := by decide +kernel
theorem dX7_mix_19 : decode cX7_mix 19 = .ok (.ifCond .ne 6, 3) := by decide +kernel
theorem dX7_mix_22 : decode cX7_mix 22 = .ok (.bipush (-2), 2) := by decide +kernel
theorem dX7_mix_24 : decode cX7_mix 24 = .ok (.ireturn, 1) := by decide +kernel
theorem dX7_mix_25 : decode cX7_mix 25 = .ok (.aload_n 0, 1) := by decide +kernel
theorem dX7_mix_26 : decode cX7_mix 26 = .ok (.getfield 20, 3) := by decide +kernel
theorem dX7_mix_29 : decode cX7_mix 29 = .ok (.getfield 136, 3) := by decide +kernel
theorem dX7_mix_32 : decode cX7_mix 32 = .ok (.bipush 6, 2) := by decide +kernel
theorem dX7_mix_34 : decode cX7_mix 34 = .ok (.if_icmp .lt 6, 3) := by decide +kernel
theorem dX7_mix_37 : decode cX7_mix 37 = .ok (.bipush (-4), 2) := by decide +kernel
theorem dX7_mix_39 : decode cX7_mix 39 = .ok (.ireturn, 1) := by decide +kernel
theorem dX7_mix_40 : decode cX7_mix 40 = .ok (.aload_n 0, 1) := by decide +kernel
theorem dX7_mix_41 : decode cX7_mix 41 = .ok (.getfield 36, 3) := by decide +kernel
theorem dX7_mix_44 : decode cX7_mix 44 = .ok (.invokevirtual 202, 3) := by decide +kernel
theorem dX7_mix_47 : decode cX7_mix 47 = .ok (.astore 5, 2) := by decide +kernel
theorem dX7_mix_49 : decode cX7_mix 49 = .ok (.aload_n 0, 1) := by decide +kernel
theorem dX7_mix_50 : decode cX7_mix 50 = .ok (.getfield 20, 3) := by decide +kernel
theorem dX7_mix_53 : decode cX7_mix 53 = .ok (.aload 5, 2) := by decide +kernel
theorem dX7_mix_55 : decode cX7_mix 55 = .ok (.getfield 150, 3) := by decide +kernel
theorem dX7_mix_58 : decode cX7_mix 58 = .ok (.aload 5, 2) := by decide +kernel
theorem dX7_mix_60 : decode cX7_mix 60 = .ok (.getfield 155, 3) := by decide +kernel
theorem dX7_mix_63 : decode cX7_mix 63 = .ok (.iconst 0, 1) := by decide +kernel
theorem dX7_mix_64 : decode cX7_mix 64 = .ok (.iaload, 1) := by decide +kernel
theorem dX7_mix_65 : decode cX7_mix 65 = .ok (.aload 5, 2) := by decide +kernel
theorem dX7_mix_67 : decode cX7_mix 67 = .ok (.getfield 155, 3) := by decide +kernel
theorem dX7_mix_70 : decode cX7_mix 70 = .ok (.iconst 1, 1) := by decide +kernel
theorem dX7_mix_71 : decode cX7_mix 71 = .ok (.iaload, 1) := by decide +kernel
theorem dX7_mix_72 : decode cX7_mix 72 = .ok (.aload 5, 2) := by decide +kernel
theorem dX7_mix_74 : decode cX7_mix 74 = .ok (.getfield 155, 3) := by decide +kernel
theorem dX7_mix_77 : decode cX7_mix 77 = .ok (.iconst 2, 1) := by decide +kernel
theorem dX7_mix_78 : decode cX7_mix 78 = .ok (.iaload, 1) := by decide +kernel
theorem dX7_mix_79 : decode cX7_mix 79 = .ok (.invokevirtual 139, 3) := by decide +kernel
theorem dX7_mix_82 : decode cX7_mix 82 = .ok (.ireturn, 1) := by decide +kernel
set_option maxRecDepth 20000 in
theorem ggX7_best_X6_hasCell : GoodIn wsX7_best wsX6_hasCell := goodIn_r _ [9, 10, 122, 123, 124, 125, 126, 127, 128, 129, 130, 131, 132] (by decide +kernel) (by decide +kernel)
set_option maxRecDepth 20000 in
theorem gX7_best_X6_hasCell : GoodIn wsX7_best (wsV RX7 83 RX6 yX6_hasCell wsX6_hasCell) := goodIn_app (goodIn_of _ (by decide +kernel)) ggX7_best_X6_hasCell
set_option maxRecDepth 20000 in
theorem ggX7_best_X7_isWithin : GoodIn wsX7_best wsX7_isWithin := goodIn_r _ [14] (by decide +kernel) (by decide +kernel)
set_option maxRecDepth 20000 in
theorem gX7_best_X7_isWithin : GoodIn wsX7_best (va_wsS RX7 108 yX7_isWithin wsX7_isWithin) := goodIn_app (goodIn_of _ (by decide +kernel)) ggX7_best_X7_isWithin
set_option maxRecDepth 20000 in
theorem ggX7_best_X3_searchFor : GoodIn wsX7_best wsX3_searchFor := goodIn_r _ [19, 20, 21, 22, 23, 24, 25, 26, 27, 8, 28, 29, 30, 31, 32, 33, 34, 35, 36, 37, 38, 39, 40, 41, 42, 43, 44, 45, 46, 47, 48, 49, 50, 51, 52, 53, 54, 55, 56, 57, 58, 59, 60, 61, 62, 18, 63, 64, 65, 66, 67, 68, 69, 70, 71, 72, 73, 74, 75, 76, 77, 12, 13, 14, 78, 79, 80, 81, 82, 83, 84, 85, 86, 87, 88, 89, 90, 91, 92, 93, 94, 95, 96, 97, 98, 99, 100, 101, 102, 103, 104, 105, 106, 107, 115, 116, 117, 118, 119, 120, 121, 122, 123, 124, 125, 126, 127, 128, 129, 130, 131, 132, 133, 134, 135, 136, 137, 138, 139] (by decide +kernel) (by decide +kernel)
set_option maxRecDepth 20000 in
theorem gX7_best_X3_searchFor : GoodIn wsX7_best (wsV RX7 206 RX3 yX3_searchFor wsX3_searchFor) := goodIn_app (goodIn_of _ (by decide +kernel)) ggX7_best_X3_searchFor
theorem dX7_best_0 : decode cX7_best 0 = .ok (.aload_n 0, 1) := by decide +kernel
theorem dX7_best_1 : decode cX7_best 1 = .ok (.getfield 20, 3) := by decide +kernel
theorem dX7_best_4 : decode cX7_best 4 = .ok (.iload_n 1, 1) := by decide +kernel
theorem dX7_best_5 : decode cX7_best 5 = .ok (.invokevirtual 83, 3) := by decide +kernel
theorem dX7_best_8 : decode cX7_best 8 = .ok (.ifCond .ne 5, 3) := by decide +kernel
theorem dX7_best_11 : decode cX7_best 11 = .ok (.iconst (-1), 1) := by decide +kernel
theorem dX7_best_12 : decode cX7_best 12 = .ok (.ireturn, 1) := by decide +kernel
theorem dX7_best_13 : decode cX7_best 13 = .ok (.iload_n 2, 1) := by decide +kernel
theorem dX7_best_14 : decode cX7_best 14 = .ok (.iconst (-1), 1) := by decide +kernel
theorem dX7_best_15 : decode cX7_best 15 = .ok (.iconst 3, 1) := by decide +kernel
theorem dX7_best_16 : decode cX7_best 16 = .ok (.invokestatic 108, 3) := by decide +kernel
theorem dX7_best_19 : decode cX7_best 19 = .ok (.ifCond .ne 6, 3) := by decide +kernel
theorem dX7_best_22 : decode cX7_best 22 = .ok (.bipush (-2), 2) := by decide +kernel
theorem dX7_best_24 : decode cX7_best 24 = .ok (.ireturn, 1) := by decide +kernel
theorem dX7_best_25 : decode cX7_best 25 = .ok (.aload_n 0, 1) := by decide +kernel
theorem dX7_best_26 : decode cX7_best 26 = .ok (.getfield 36, 3) := by decide +kernel
theorem dX7_best_29 : decode cX7_best 29 = .ok (.iload_n 1, 1) := by decide +kernel
theorem dX7_best_30 : decode cX7_best 30 = .ok (.invokevirtual 206, 3) := by decide +kernel
theorem dX7_best_33 : decode cX7_best 33 = .ok (.iload_n 2, 1) := by decide +kernel
theorem dX7_best_34 : decode cX7_best 34 = .ok (.ifCond .ge 13, 3) := by decide +kernel
theorem dX7_best_37 : decode cX7_best 37 = .ok (.aload_n 0, 1) := by decide +kernel
theorem dX7_best_38 : decode cX7_best 38 = .ok (.getfield 36, 3) := by decide +kernel
theorem dX7_best_41 : decode cX7_best 41 = .ok (.getfield 209, 3) := by decide +kernel
theorem dX7_best_44 : decode cX7_best 44 = .ok (.goto 12, 3) := by decide +kernel
theorem dX7_best_47 : decode cX7_best 47 = .ok (.aload_n 0, 1) := by decide +kernel
theorem dX7_best_48 : decode cX7_best 48 = .ok (.getfield 36, 3) := by decide +kernel
theorem dX7_best_51 : decode cX7_best 51 = .ok (.getfield 212, 3) := by decide +kernel
theorem dX7_best_54 : decode cX7_best 54 = .ok (.iload_n 2, 1) := by decide +kernel
theorem dX7_best_55 : decode cX7_best 55 = .ok (.iaload, 1) := by decide +kernel
theorem dX7_best_56 : decode cX7_best 56 = .ok (.ireturn, 1) := by decide +kernel
set_option maxRecDepth 20000 in
theorem ggX7_traitors_X6_hasLight : GoodIn wsX7_traitors wsX6_hasLight := goodIn_r _ [7, 8, 50, 51, 52, 53, 54, 55, 56, 57, 58, 59, 60] (by decide +kernel) (by decide +kernel)
set_option maxRecDepth 20000 in
theorem gX7_traitors_X6_hasLight : GoodIn wsX7_traitors (wsV RX7 173 RX6 yX6_hasLight wsX6_hasLight) := goodIn_app (goodIn_of _ (by decide +kernel)) ggX7_traitors_X6_hasLight
set_option maxRecDepth 20000 in
theorem ggX7_traitors_X6_areTraitors : GoodIn wsX7_traitors wsX6_areTraitors := goodIn_r _ [12, 13, 14, 15, 16, 6, 17, 18, 19, 20, 21, 22, 23, 24, 25, 26, 27, 28, 29, 30, 31, 32, 33, 34, 35, 36, 37, 38, 39, 40, 41, 42, 50, 51, 52, 53, 54, 55, 56, 57, 58, 59, 60, 61, 62] (by decide +kernel) (by decide +kernel)
set_option maxRecDepth 20000 in
theorem gX7_traitors_X6_areTraitors : GoodIn wsX7_traitors (wsV RX7 215 RX6 yX6_areTraitors wsX6_areTraitors) := goodIn_app (goodIn_of _ (by decide +kernel)) ggX7_traitors_X6_areTraitors
theorem dX7_traitors_0 : decode cX7_traitors 0 = .ok (.aload_n 0, 1) := by decide +kernel
theorem dX7_traitors_1 : decode cX7_traitors 1 = .ok (.getfield 20, 3) := by decide +kernel
theorem dX7_traitors_4 : decode cX7_traitors 4 = .ok (.iload_n 1, 1) := by decide +kernel
theorem dX7_traitors_5 : decode cX7_traitors 5 = .ok (.invokevirtual 173, 3) := by decide +kernel
theorem dX7_traitors_8 : decode cX7_traitors 8 = .ok (.ifCond .eq 19, 3) := by decide +kernel
theorem dX7_traitors_11 : decode cX7_traitors 11 = .ok (.aload_n 0, 1) := by decide +kernel
theorem dX7_traitors_12 : decode cX7_traitors 12 = .ok (.getfield 20, 3) := by decide +kernel
theorem dX7_traitors_15 : decode cX7_traitors 15 = .ok (.iload_n 2, 1) := by decide +kernel
theorem dX7_traitors_16 : decode cX7_traitors 16 = .ok (.invokevirtual 173, 3) := by decide +kernel
theorem dX7_traitors_19 : decode cX7_traitors 19 = .ok (.ifCond .eq 8, 3) := by decide +kernel
theorem dX7_traitors_22 : decode cX7_traitors 22 = .ok (.iload_n 3, 1) := by decide +kernel
theorem dX7_traitors_23 : decode cX7_traitors 23 = .ok (.iconst (-1), 1) := by decide +kernel
theorem dX7_traitors_24 : decode cX7_traitors 24 = .ok (.if_icmp .ge 5, 3) := by decide +kernel
theorem dX7_traitors_27 : decode cX7_traitors 27 = .ok (.iconst (-1), 1) := by decide +kernel
theorem dX7_traitors_28 : decode cX7_traitors 28 = .ok (.ireturn, 1) := by decide +kernel
theorem dX7_traitors_29 : decode cX7_traitors 29 = .ok (.iconst 0, 1) := by decide +kernel
theorem dX7_traitors_30 : decode cX7_traitors 30 = .ok (.istore 4, 2) := by decide +kernel
theorem dX7_traitors_32 : decode cX7_traitors 32 = .ok (.iconst 0, 1) := by decide +kernel
theorem dX7_traitors_33 : decode cX7_traitors 33 = .ok (.istore 5, 2) := by decide +kernel
theorem dX7_traitors_35 : decode cX7_traitors 35 = .ok (.iload 5, 2) := by decide +kernel
theorem dX7_traitors_37 : decode cX7_traitors 37 = .ok (.aload_n 0, 1) := by decide +kernel
theorem dX7_traitors_38 : decode cX7_traitors 38 = .ok (.getfield 20, 3) := by decide +kernel
theorem dX7_traitors_41 : decode cX7_traitors 41 = .ok (.getfield 136, 3) := by decide +kernel
theorem dX7_traitors_44 : decode cX7_traitors 44 = .ok (.if_icmp .ge 67, 3) := by decide +kernel
theorem dX7_traitors_47 : decode cX7_traitors 47 = .ok (.iload 5, 2) := by decide +kernel
theorem dX7_traitors_49 : decode cX7_traitors 49 = .ok (.iconst 1, 1) := by decide +kernel
theorem dX7_traitors_50 : decode cX7_traitors 50 = .ok (.iadd, 1) := by decide +kernel
theorem dX7_traitors_51 : decode cX7_traitors 51 = .ok (.istore 6, 2) := by decide +kernel
theorem dX7_traitors_53 : decode cX7_traitors 53 = .ok (.iload 6, 2) := by decide +kernel
theorem dX7_traitors_55 : decode cX7_traitors 55 = .ok (.aload_n 0, 1) := by decide +kernel
theorem dX7_traitors_56 : decode cX7_traitors 56 = .ok (.getfield 20, 3) := by decide +kernel
theorem dX7_traitors_59 : decode cX7_traitors 59 = .ok (.getfield 136, 3) := by decide +kernel
theorem dX7_traitors_62 : decode cX7_traitors 62 = .ok (.if_icmp .ge 43, 3) := by decide +kernel
theorem dX7_traitors_65 : decode cX7_traitors 65 = .ok (.aload_n 0, 1) := by decide +kernel
theorem dX7_traitors_66 : decode cX7_traitors 66 = .ok (.getfield 20, 3) := by decide +kernel
theorem dX7_traitors_69 : decode cX7_traitors 69 = .ok (.iload 5, 2) := by decide +kernel
theorem dX7_traitors_71 : decode cX7_traitors 71 = .ok (.iload 6, 2) := by decide +kernel
theorem dX7_traitors_73 : decode cX7_traitors 73 = .ok (.iload_n 1, 1) := by decide +kernel
theorem dX7_traitors_74 : decode cX7_traitors 74 = .ok (.iload_n 2, 1) := by decide +kernel
theorem dX7_traitors_75 : decode cX7_traitors 75 = .ok (.invokevirtual 215, 3) := by decide +kernel
theorem dX7_traitors_78 : decode cX7_traitors 78 = .ok (.ifCond .eq 21, 3) := by decide +kernel
theorem dX7_traitors_81 : decode cX7_traitors 81 = .ok (.iload 4, 2) := by decide +kernel
theorem dX7_traitors_83 : decode cX7_traitors 83 = .ok (.iload_n 3, 1) := by decide +kernel
theorem dX7_traitors_84 : decode cX7_traitors 84 = .ok (.if_icmp .ne 12, 3) := by decide +kernel
theorem dX7_traitors_87 : decode cX7_traitors 87 = .ok (.bipush 10, 2) := by decide +kernel
theorem dX7_traitors_89 : decode cX7_traitors 89 = .ok (.iload 5, 2) := by decide +kernel
theorem dX7_traitors_91 : decode cX7_traitors 91 = .ok (.imul, 1) := by decide +kernel
theorem dX7_traitors_92 : decode cX7_traitors 92 = .ok (.iload 6, 2) := by decide +kernel
theorem dX7_traitors_94 : decode cX7_traitors 94 = .ok (.iadd, 1) := by decide +kernel
theorem dX7_traitors_95 : decode cX7_traitors 95 = .ok (.ireturn, 1) := by decide +kernel
theorem dX7_traitors_96 : decode cX7_traitors 96 = .ok (.iinc 4 1, 3) := by decide +kernel
theorem dX7_traitors_99 : decode cX7_traitors 99 = .ok (.iinc 6 1, 3) := by decide +kernel
theorem dX7_traitors_102 : decode cX7_traitors 102 = .ok (.goto (-49), 3) := by decide +kernel
theorem dX7_traitors_105 : decode cX7_traitors 105 = .ok (.iinc 5 1, 3) := by decide +kernel
theorem dX7_traitors_108 : decode cX7_traitors 108 = .ok (.goto (-73), 3) := by decide +kernel
theorem dX7_traitors_111 : decode cX7_traitors 111 = .ok (.iload_n 3, 1) := by decide +kernel
theorem dX7_traitors_112 : decode cX7_traitors 112 = .ok (.iconst (-1), 1) := by decide +kernel
theorem dX7_traitors_113 : decode cX7_traitors 113 = .ok (.if_icmp .ne 8, 3) := by decide +kernel
theorem dX7_traitors_116 : decode cX7_traitors 116 = .ok (.iload 4, 2) := by decide +kernel
theorem dX7_traitors_118 : decode cX7_traitors 118 = .ok (.goto 5, 3) := by decide +kernel
theorem dX7_traitors_121 : decode cX7_traitors 121 = .ok (.bipush (-9), 2) := by decide +kernel
theorem dX7_traitors_123 : decode cX7_traitors 123 = .ok (.ireturn, 1) := by decide +kernel
set_option maxRecDepth 20000 in
theorem ggX7_patch_X6_hasCell : GoodIn wsX7_patch wsX6_hasCell := goodIn_r _ [10, 11, 139, 140, 141, 142, 143, 144, 145, 146, 147, 148, 149] (by decide +kernel) (by decide +kernel)
set_option maxRecDepth 20000 in
theorem gX7_patch_X6_hasCell : GoodIn wsX7_patch (wsV RX7 83 RX6 yX6_hasCell wsX6_hasCell) := goodIn_app (goodIn_of _ (by decide +kernel)) ggX7_patch_X6_hasCell
set_option maxRecDepth 20000 in
theorem ggX7_patch_X6_hasCoat : GoodIn wsX7_patch wsX6_hasCoat := goodIn_r _ [15, 16, 139, 140, 141, 142, 143, 144, 145, 146, 147, 148, 149] (by decide +kernel) (by decide +kernel)
set_option maxRecDepth 20000 in
theorem gX7_patch_X6_hasCoat : GoodIn wsX7_patch (wsV RX7 143 RX6 yX6_hasCoat wsX6_hasCoat) := goodIn_app (goodIn_of _ (by decide +kernel)) ggX7_patch_X6_hasCoat
set_option maxRecDepth 20000 in
theorem ggX7_patch_X7_isWithin : GoodIn wsX7_patch wsX7_isWithin := goodIn_r _ [20] (by decide +kernel) (by decide +kernel)
set_option maxRecDepth 20000 in
theorem gX7_patch_X7_isWithin : GoodIn wsX7_patch (va_wsS RX7 108 yX7_isWithin wsX7_isWithin) := goodIn_app (goodIn_of _ (by decide +kernel)) ggX7_patch_X7_isWithin
set_option maxRecDepth 20000 in
theorem ggX7_patch_X4_searchAround : GoodIn wsX7_patch wsX4_searchAround := goodIn_r _ [25, 26, 27, 28, 29, 30, 31, 32, 33, 34, 35, 36, 37, 38, 39, 40, 41, 9, 42, 43, 44, 45, 46, 47, 48, 49, 50, 51, 52, 53, 54, 55, 56, 57, 58, 59, 60, 61, 62, 63, 64, 65, 66, 67, 68, 69, 70, 71, 72, 73, 74, 75, 76, 77, 78, 79, 80, 81, 82, 83, 84, 85, 86, 87, 88, 89, 90, 91, 92, 93, 94, 95, 96, 24, 97, 98, 99, 100, 101, 102, 103, 104, 105, 106, 107, 108, 109, 110, 111, 112, 113, 114, 115, 116, 117, 118, 119, 120, 121, 122, 123, 124, 125, 126, 134, 135, 136, 137, 138, 139, 140, 141, 142, 143, 144, 145, 146, 147, 148, 149, 150, 151, 152, 153, 154, 155, 156, 157, 158, 159] (by decide +kernel) (by decide +kernel)
set_option maxRecDepth 20000 in
theorem gX7_patch_X4_searchAround : GoodIn wsX7_patch (wsV RX7 218 RX4 yX4_searchAround wsX4_searchAround) := goodIn_app (goodIn_of _ (by decide +kernel)) ggX7_patch_X4_searchAround
theorem dX7_patch_0 : decode cX7_patch 0 = .ok (.aload_n 0, 1) := by decide +kernel
theorem dX7_patch_1 : decode cX7_patch 1 = .ok (.getfield 20, 3) := by decide +kernel
theorem dX7_patch_4 : decode cX7_patch 4 = .ok (.iload_n 1, 1) := by decide +kernel
theorem dX7_patch_5 : decode cX7_patch 5 = .ok (.invokevirtual 83, 3) := by decide +kernel
theorem dX7_patch_8 : decode cX7_patch 8 = .ok (.ifCond .eq 14, 3) := by decide +kernel
theorem dX7_patch_11 : decode cX7_patch 11 = .ok (.aload_n 0, 1) := by decide +kernel
theorem dX7_patch_12 : decode cX7_patch 12 = .ok (.getfield 20, 3) := by decide +kernel
theorem dX7_patch_15 : decode cX7_patch 15 = .ok (.iload_n 2, 1) := by decide +kernel
theorem dX7_patch_16 : decode cX7_patch 16 = .ok (.invokevirtual 143, 3) := by decide +kernel
theorem dX7_patch_19 : decode cX7_patch 19 = .ok (.ifCond .ne 5, 3) := by decide +kernel
theorem dX7_patch_22 : decode cX7_patch 22 = .ok (.iconst (-1), 1) := by decide +kernel
theorem dX7_patch_23 : decode cX7_patch 23 = .ok (.ireturn, 1) := by decide +kernel
theorem dX7_patch_24 : decode cX7_patch 24 = .ok (.iload_n 3, 1) := by decide +kernel
theorem dX7_patch_25 : decode cX7_patch 25 = .ok (.iconst 0, 1) := by decide +kernel
theorem dX7_patch_26 : decode cX7_patch 26 = .ok (.iconst 2, 1) := by decide +kernel
theorem dX7_patch_27 : decode cX7_patch 27 = .ok (.invokestatic 108, 3) := by decide +kernel
theorem dX7_patch_30 : decode cX7_patch 30 = .ok (.ifCond .ne 6, 3) := by decide +kernel
theorem dX7_patch_33 : decode cX7_patch 33 = .ok (.bipush (-2), 2) := by decide +kernel
theorem dX7_patch_35 : decode cX7_patch 35 = .ok (.ireturn, 1) := by decide +kernel
theorem dX7_patch_36 : decode cX7_patch 36 = .ok (.aload_n 0, 1) := by decide +kernel
theorem dX7_patch_37 : decode cX7_patch 37 = .ok (.getfield 45, 3) := by decide +kernel
theorem dX7_patch_40 : decode cX7_patch 40 = .ok (.iload_n 1, 1) := by decide +kernel
theorem dX7_patch_41 : decode cX7_patch 41 = .ok (.iload_n 2, 1) := by decide +kernel
theorem dX7_patch_42 : decode cX7_patch 42 = .ok (.invokevirtual 218, 3) := by decide +kernel
theorem dX7_patch_45 : decode cX7_patch 45 = .ok (.aload_n 0, 1) := by decide +kernel
theorem dX7_patch_46 : decode cX7_patch 46 = .ok (.getfield 45, 3) := by decide +kernel
theorem dX7_patch_49 : decode cX7_patch 49 = .ok (.getfield 222, 3) := by decide +kernel
theorem dX7_patch_52 : decode cX7_patch 52 = .ok (.ifCond .ne 6, 3) := by decide +kernel
theorem dX7_patch_55 : decode cX7_patch 55 = .ok (.bipush (-9), 2) := by decide +kernel
theorem dX7_patch_57 : decode cX7_patch 57 = .ok (.ireturn, 1) := by decide +kernel
theorem dX7_patch_58 : decode cX7_patch 58 = .ok (.iload_n 3, 1) := by decide +kernel
theorem dX7_patch_59 : decode cX7_patch 59 = .ok (.ifCond .ne 11, 3) := by decide +kernel
theorem dX7_patch_62 : decode cX7_patch 62 = .ok (.aload_n 0, 1) := by decide +kernel
theorem dX7_patch_63 : decode cX7_patch 63 = .ok (.getfield 45, 3) := by decide +kernel
theorem dX7_patch_66 : decode cX7_patch 66 = .ok (.getfield 222, 3) := by decide +kernel
theorem dX7_patch_69 : decode cX7_patch 69 = .ok (.ireturn, 1) := by decide +kernel
theorem dX7_patch_70 : decode cX7_patch 70 = .ok (.iload_n 3, 1) := by decide +kernel
theorem dX7_patch_71 : decode cX7_patch 71 = .ok (.iconst 1, 1) := by decide +kernel
theorem dX7_patch_72 : decode cX7_patch 72 = .ok (.if_icmp .ne 13, 3) := by decide +kernel
theorem dX7_patch_75 : decode cX7_patch 75 = .ok (.aload_n 0, 1) := by decide +kernel
theorem dX7_patch_76 : decode cX7_patch 76 = .ok (.getfield 45, 3) := by decide +kernel
theorem dX7_patch_79 : decode cX7_patch 79 = .ok (.getfield 225, 3) := by decide +kernel
theorem dX7_patch_82 : decode cX7_patch 82 = .ok (.goto 10, 3) := by decide +kernel
theorem dX7_patch_85 : decode cX7_patch 85 = .ok (.aload_n 0, 1) := by decide +kernel
theorem dX7_patch_86 : decode cX7_patch 86 = .ok (.getfield 45, 3) := by decide +kernel
theorem dX7_patch_89 : decode cX7_patch 89 = .ok (.getfield 228, 3) := by decide +kernel
theorem dX7_patch_92 : decode cX7_patch 92 = .ok (.ireturn, 1) := by decide +kernel
set_option maxRecDepth 20000 in
theorem ggX7_leave_X6_hasCell : GoodIn wsX7_leave wsX6_hasCell := goodIn_r _ [7, 8, 105, 106, 107, 108, 109, 110, 111, 112, 113, 114, 115] (by decide +kernel) (by decide +kernel)
set_option maxRecDepth 20000 in
theorem gX7_leave_X6_hasCell : GoodIn wsX7_leave (wsV RX7 83 RX6 yX6_hasCell wsX6_hasCell) := goodIn_app (goodIn_of _ (by decide +kernel)) ggX7_leave_X6_hasCell
set_option maxRecDepth 20000 in
theorem ggX7_leave_X6_hasCoat : GoodIn wsX7_leave wsX6_hasCoat := goodIn_r _ [12, 13, 105, 106, 107, 108, 109, 110, 111, 112, 113, 114, 115] (by decide +kernel) (by decide +kernel)
set_option maxRecDepth 20000 in
theorem gX7_leave_X6_hasCoat : GoodIn wsX7_leave (wsV RX7 143 RX6 yX6_hasCoat wsX6_hasCoat) := goodIn_app (goodIn_of _ (by decide +kernel)) ggX7_leave_X6_hasCoat
set_option maxRecDepth 20000 in
theorem ggX7_leave_X2_takeAsItIs : GoodIn wsX7_leave wsX2_takeAsItIs := goodIn_r _ [18, 19, 20, 21, 22, 23, 24, 6, 25, 26, 27, 28, 29, 30, 31, 32, 33, 34, 35, 36, 37, 38, 39, 40, 41, 42, 43, 44, 45, 46, 47, 48, 49, 50, 51, 52, 53, 54, 55, 56, 57, 58, 59, 17, 60, 61, 116, 117, 118, 105, 106, 107, 108, 109, 110, 111, 112, 113, 114, 115, 119, 120, 121, 122, 123, 124, 125] (by decide +kernel) (by decide +kernel)
set_option maxRecDepth 20000 in
theorem gX7_leave_X2_takeAsItIs : GoodIn wsX7_leave (wsV RX7 185 RX2 yX2_takeAsItIs wsX2_takeAsItIs) := goodIn_app (goodIn_of _ (by decide +kernel)) ggX7_leave_X2_takeAsItIs
set_option maxRecDepth 20000 in
theorem ggX7_leave_X2_countSeen : GoodIn wsX7_leave wsX2_countSeen := goodIn_r _ [65, 19, 20, 66, 67, 68, 17, 69, 70, 71, 72, 73, 6, 74, 75, 76, 77, 78, 79, 61, 21, 80, 81, 50, 82, 83, 22, 23, 24, 25, 26, 84, 85, 86, 87, 116, 117, 118, 105, 106, 107, 108, 109, 110, 111, 112, 113, 114, 115] (by decide +kernel) (by decide +kernel)
set_option maxRecDepth 20000 in
theorem gX7_leave_X2_countSeen : GoodIn wsX7_leave (wsV RX7 188 RX2 yX2_countSeen wsX2_countSeen) := goodIn_app (goodIn_of _ (by decide +kernel)) ggX7_leave_X2_countSeen
set_option maxRecDepth 20000 in
theorem ggX7_leave_X2_takeFresh : GoodIn wsX7_leave wsX2_takeFresh := goodIn_r _ [91, 19, 21, 92, 22, 23, 24, 6, 25, 26, 93, 37, 38, 39, 40, 41, 42, 43, 44, 45, 46, 47, 48, 49, 50, 51, 52, 53, 54, 55, 56, 116, 117, 118, 105, 106, 107, 108, 109, 110, 111, 112, 113, 114, 115, 124, 125] (by decide +kernel) (by decide +kernel)
set_option maxRecDepth 20000 in
theorem gX7_leave_X2_takeFresh : GoodIn wsX7_leave (wsV RX7 231 RX2 yX2_takeFresh wsX2_takeFresh) := goodIn_app (goodIn_of _ (by decide +kernel)) ggX7_leave_X2_takeFresh
set_option maxRecDepth 20000 in
theorem ggX7_leave_X2_paintOne : GoodIn wsX7_leave wsX2_paintOne := goodIn_r _ [97, 61, 116, 117, 118] (by decide +kernel) (by decide +kernel)
set_option maxRecDepth 20000 in
theorem gX7_leave_X2_paintOne : GoodIn wsX7_leave (wsV RX7 232 RX2 yX2_paintOne wsX2_paintOne) := goodIn_app (goodIn_of _ (by decide +kernel)) ggX7_leave_X2_paintOne
theorem dX7_leave_0 : decode cX7_leave 0 = .ok (.aload_n 0, 1) := by decide +kernel
theorem dX7_leave_1 : decode cX7_leave 1 = .ok (.getfield 20, 3) := by decide +kernel
theorem dX7_leave_4 : decode cX7_leave 4 = .ok (.iload_n 1, 1) := by decide +kernel
theorem dX7_leave_5 : decode cX7_leave 5 = .ok (.invokevirtual 83, 3) := by decide +kernel
theorem dX7_leave_8 : decode cX7_leave 8 = .ok (.ifCond .eq 14, 3) := by decide +kernel
theorem dX7_leave_11 : decode cX7_leave 11 = .ok (.aload_n 0, 1) := by decide +kernel
theorem dX7_leave_12 : decode cX7_leave 12 = .ok (.getfield 20, 3) := by decide +kernel
theorem dX7_leave_15 : decode cX7_leave 15 = .ok (.iload_n 2, 1) := by decide +kernel
theorem dX7_leave_16 : decode cX7_leave 16 = .ok (.invokevirtual 143, 3) := by decide +kernel
theorem dX7_leave_19 : decode cX7_leave 19 = .ok (.ifCond .ne 5, 3) := by decide +kernel
theorem dX7_leave_22 : decode cX7_leave 22 = .ok (.iconst (-1), 1) := by decide +kernel
theorem dX7_leave_23 : decode cX7_leave 23 = .ok (.ireturn, 1) := by decide +kernel
theorem dX7_leave_24 : decode cX7_leave 24 = .ok (.aload_n 0, 1) := by decide +kernel
theorem dX7_leave_25 : decode cX7_leave 25 = .ok (.getfield 29, 3) := by decide +kernel
theorem dX7_leave_28 : decode cX7_leave 28 = .ok (.invokevirtual 185, 3) := by decide +kernel
theorem dX7_leave_31 : decode cX7_leave 31 = .ok (.aload_n 0, 1) := by decide +kernel
theorem dX7_leave_32 : decode cX7_leave 32 = .ok (.getfield 29, 3) := by decide +kernel
theorem dX7_leave_35 : decode cX7_leave 35 = .ok (.invokevirtual 188, 3) := by decide +kernel
theorem dX7_leave_38 : decode cX7_leave 38 = .ok (.istore_n 3, 1) := by decide +kernel
theorem dX7_leave_39 : decode cX7_leave 39 = .ok (.aload_n 0, 1) := by decide +kernel
theorem dX7_leave_40 : decode cX7_leave 40 = .ok (.getfield 29, 3) := by decide +kernel
theorem dX7_leave_43 : decode cX7_leave 43 = .ok (.iload_n 2, 1) := by decide +kernel
theorem dX7_leave_44 : decode cX7_leave 44 = .ok (.invokevirtual 231, 3) := by decide +kernel
theorem dX7_leave_47 : decode cX7_leave 47 = .ok (.aload_n 0, 1) := by decide +kernel
theorem dX7_leave_48 : decode cX7_leave 48 = .ok (.getfield 29, 3) := by decide +kernel
theorem dX7_leave_51 : decode cX7_leave 51 = .ok (.iload_n 1, 1) := by decide +kernel
theorem dX7_leave_52 : decode cX7_leave 52 = .ok (.invokevirtual 232, 3) := by decide +kernel
theorem dX7_leave_55 : decode cX7_leave 55 = .ok (.iload_n 3, 1) := by decide +kernel
theorem dX7_leave_56 : decode cX7_leave 56 = .ok (.aload_n 0, 1) := by decide +kernel
theorem dX7_leave_57 : decode cX7_leave 57 = .ok (.getfield 29, 3) := by decide +kernel
theorem dX7_leave_60 : decode cX7_leave 60 = .ok (.invokevirtual 188, 3) := by decide +kernel
theorem dX7_leave_63 : decode cX7_leave 63 = .ok (.isub, 1) := by decide +kernel
theorem dX7_leave_64 : decode cX7_leave 64 = .ok (.bipush 100, 2) := by decide +kernel
theorem dX7_leave_66 : decode cX7_leave 66 = .ok (.iadd, 1) := by decide +kernel
theorem dX7_leave_67 : decode cX7_leave 67 = .ok (.ireturn, 1) := by decide +kernel
set_option maxRecDepth 20000 in
theorem ggX7_on_X6_hasCell : GoodIn wsX7_on wsX6_hasCell := goodIn_r _ [13, 14, 52, 53, 54, 55, 56, 57, 58, 59, 60, 61, 62] (by decide +kernel) (by decide +kernel)
set_option maxRecDepth 20000 in
theorem gX7_on_X6_hasCell : GoodIn wsX7_on (wsV RX7 83 RX6 yX6_hasCell wsX6_hasCell) := goodIn_app (goodIn_of _ (by decide +kernel)) ggX7_on_X6_hasCell
set_option maxRecDepth 20000 in
theorem ggX7_on_X6_hasLight : GoodIn wsX7_on wsX6_hasLight := goodIn_r _ [18, 19, 52, 53, 54, 55, 56, 57, 58, 59, 60, 61, 62] (by decide +kernel) (by decide +kernel)
set_option maxRecDepth 20000 in
theorem gX7_on_X6_hasLight : GoodIn wsX7_on (wsV RX7 173 RX6 yX6_hasLight wsX6_hasLight) := goodIn_app (goodIn_of _ (by decide +kernel)) ggX7_on_X6_hasLight
set_option maxRecDepth 20000 in
theorem ggX7_on_X7_isWithin : GoodIn wsX7_on wsX7_isWithin := goodIn_r _ [23] (by decide +kernel) (by decide +kernel)
set_option maxRecDepth 20000 in
theorem gX7_on_X7_isWithin : GoodIn wsX7_on (va_wsS RX7 108 yX7_isWithin wsX7_isWithin) := goodIn_app (goodIn_of _ (by decide +kernel)) ggX7_on_X7_isWithin
set_option maxRecDepth 20000 in
theorem ggX7_on_X6_lookOfCoat : GoodIn wsX7_on wsX6_lookOfCoat := goodIn_r _ [27, 28, 29, 30, 31, 32, 33, 34, 35, 36, 37, 38, 39, 40, 41, 42, 43, 44, 52, 53, 54, 55, 56, 57, 58, 59, 60, 61, 62, 68, 69] (by decide +kernel) (by decide +kernel)
set_option maxRecDepth 20000 in
theorem gX7_on_X6_lookOfCoat : GoodIn wsX7_on (wsV RX7 235 RX6 yX6_lookOfCoat wsX6_lookOfCoat) := goodIn_app (goodIn_of _ (by decide +kernel)) ggX7_on_X6_lookOfCoat
theorem dX7_on_0 : decode cX7_on 0 = .ok (.aload_n 0, 1) := by decide +kernel
theorem dX7_on_1 : decode cX7_on 1 = .ok (.getfield 20, 3) := by decide +kernel
theorem dX7_on_4 : decode cX7_on 4 = .ok (.iload_n 1, 1) := by decide +kernel
theorem dX7_on_5 : decode cX7_on 5 = .ok (.invokevirtual 83, 3) := by decide +kernel
theorem dX7_on_8 : decode cX7_on 8 = .ok (.ifCond .eq 14, 3) := by decide +kernel
theorem dX7_on_11 : decode cX7_on 11 = .ok (.aload_n 0, 1) := by decide +kernel
theorem dX7_on_12 : decode cX7_on 12 = .ok (.getfield 20, 3) := by decide +kernel
theorem dX7_on_15 : decode cX7_on 15 = .ok (.iload_n 2, 1) := by decide +kernel
theorem dX7_on_16 : decode cX7_on 16 = .ok (.invokevirtual 173, 3) := by decide +kernel
theorem dX7_on_19 : decode cX7_on 19 = .ok (.ifCond .ne 5, 3) := by decide +kernel
theorem dX7_on_22 : decode cX7_on 22 = .ok (.iconst (-1), 1) := by decide +kernel
theorem dX7_on_23 : decode cX7_on 23 = .ok (.ireturn, 1) := by decide +kernel
theorem dX7_on_24 : decode cX7_on 24 = .ok (.iload_n 3, 1) := by decide +kernel
theorem dX7_on_25 : decode cX7_on 25 = .ok (.iconst 0, 1) := by decide +kernel
theorem dX7_on_26 : decode cX7_on 26 = .ok (.bipush 40, 2) := by decide +kernel
theorem dX7_on_28 : decode cX7_on 28 = .ok (.invokestatic 108, 3) := by decide +kernel
theorem dX7_on_31 : decode cX7_on 31 = .ok (.ifCond .ne 6, 3) := by decide +kernel
theorem dX7_on_34 : decode cX7_on 34 = .ok (.bipush (-2), 2) := by decide +kernel
theorem dX7_on_36 : decode cX7_on 36 = .ok (.ireturn, 1) := by decide +kernel
theorem dX7_on_37 : decode cX7_on 37 = .ok (.aload_n 0, 1) := by decide +kernel
theorem dX7_on_38 : decode cX7_on 38 = .ok (.getfield 20, 3) := by decide +kernel
theorem dX7_on_41 : decode cX7_on 41 = .ok (.getfield 86, 3) := by decide +kernel
theorem dX7_on_44 : decode cX7_on 44 = .ok (.iload_n 1, 1) := by decide +kernel
theorem dX7_on_45 : decode cX7_on 45 = .ok (.aaload, 1) := by decide +kernel
theorem dX7_on_46 : decode cX7_on 46 = .ok (.astore 4, 2) := by decide +kernel
theorem dX7_on_48 : decode cX7_on 48 = .ok (.aload 4, 2) := by decide +kernel
theorem dX7_on_50 : decode cX7_on 50 = .ok (.getfield 104, 3) := by decide +kernel
theorem dX7_on_53 : decode cX7_on 53 = .ok (.ifCond .eq 7, 3) := by decide +kernel
theorem dX7_on_56 : decode cX7_on 56 = .ok (.iconst 0, 1) := by decide +kernel
theorem dX7_on_57 : decode cX7_on 57 = .ok (.goto 4, 3) := by decide +kernel
theorem dX7_on_60 : decode cX7_on 60 = .ok (.iload_n 3, 1) := by decide +kernel
theorem dX7_on_61 : decode cX7_on 61 = .ok (.istore 5, 2) := by decide +kernel
theorem dX7_on_63 : decode cX7_on 63 = .ok (.aload_n 0, 1) := by decide +kernel
theorem dX7_on_64 : decode cX7_on 64 = .ok (.getfield 20, 3) := by decide +kernel
theorem dX7_on_67 : decode cX7_on 67 = .ok (.aload_n 0, 1) := by decide +kernel
theorem dX7_on_68 : decode cX7_on 68 = .ok (.getfield 20, 3) := by decide +kernel
theorem dX7_on_71 : decode cX7_on 71 = .ok (.getfield 146, 3) := by decide +kernel
theorem dX7_on_74 : decode cX7_on 74 = .ok (.aload 4, 2) := by decide +kernel
theorem dX7_on_76 : decode cX7_on 76 = .ok (.getfield 95, 3) := by decide +kernel
theorem dX7_on_79 : decode cX7_on 79 = .ok (.aaload, 1) := by decide +kernel
theorem dX7_on_80 : decode cX7_on 80 = .ok (.aload 4, 2) := by decide +kernel
theorem dX7_on_82 : decode cX7_on 82 = .ok (.getfield 98, 3) := by decide +kernel
theorem dX7_on_85 : decode cX7_on 85 = .ok (.iload 5, 2) := by decide +kernel
theorem dX7_on_87 : decode cX7_on 87 = .ok (.aload 4, 2) := by decide +kernel
theorem dX7_on_89 : decode cX7_on 89 = .ok (.getfield 90, 3) := by decide +kernel
theorem dX7_on_92 : decode cX7_on 92 = .ok (.imul, 1) := by decide +kernel
theorem dX7_on_93 : decode cX7_on 93 = .ok (.iadd, 1) := by decide +kernel
theorem dX7_on_94 : decode cX7_on 94 = .ok (.aload 4, 2) := by decide +kernel
theorem dX7_on_96 : decode cX7_on 96 = .ok (.getfield 101, 3) := by decide +kernel
theorem dX7_on_99 : decode cX7_on 99 = .ok (.iload 5, 2) := by decide +kernel
theorem dX7_on_101 : decode cX7_on 101 = .ok (.iadd, 1) := by decide +kernel
theorem dX7_on_102 : decode cX7_on 102 = .ok (.iload_n 2, 1) := by decide +kernel
theorem dX7_on_103 : decode cX7_on 103 = .ok (.iconst 0, 1) := by decide +kernel
theorem dX7_on_104 : decode cX7_on 104 = .ok (.invokevirtual 235, 3) := by decide +kernel
theorem dX7_on_107 : decode cX7_on 107 = .ok (.ireturn, 1) := by decide +kernel
set_option maxRecDepth 20000 in
theorem ggX7_hide_X7_isWithin : GoodIn wsX7_hide wsX7_isWithin := goodIn_r _ [7] (by decide +kernel) (by decide +kernel)
set_option maxRecDepth 20000 in
theorem gX7_hide_X7_isWithin : GoodIn wsX7_hide (va_wsS RX7 108 yX7_isWithin wsX7_isWithin) := goodIn_app (goodIn_of _ (by decide +kernel)) ggX7_hide_X7_isWithin
set_option maxRecDepth 20000 in
theorem ggX7_hide_X6_stands : GoodIn wsX7_hide wsX6_stands := goodIn_r _ [12, 13, 95, 96, 97, 98, 99, 100, 101, 102, 103, 104, 105] (by decide +kernel) (by decide +kernel)
set_option maxRecDepth 20000 in
theorem gX7_hide_X6_stands : GoodIn wsX7_hide (wsV RX7 112 RX6 yX6_stands wsX6_stands) := goodIn_app (goodIn_of _ (by decide +kernel)) ggX7_hide_X6_stands
set_option maxRecDepth 20000 in
theorem ggX7_hide_X2_takeAsItIs : GoodIn wsX7_hide wsX2_takeAsItIs := goodIn_r _ [18, 19, 20, 21, 22, 23, 24, 11, 25, 26, 27, 28, 29, 30, 31, 32, 33, 34, 35, 36, 37, 38, 39, 40, 41, 42, 43, 44, 45, 46, 47, 48, 49, 50, 51, 52, 53, 54, 55, 56, 57, 58, 59, 17, 60, 61, 106, 107, 108, 95, 96, 97, 98, 99, 100, 101, 102, 103, 104, 105, 109, 110, 111, 112, 113, 114, 115] (by decide +kernel) (by decide +kernel)
set_option maxRecDepth 20000 in
theorem gX7_hide_X2_takeAsItIs : GoodIn wsX7_hide (wsV RX7 185 RX2 yX2_takeAsItIs wsX2_takeAsItIs) := goodIn_app (goodIn_of _ (by decide +kernel)) ggX7_hide_X2_takeAsItIs
set_option maxRecDepth 20000 in
theorem ggX7_hide_X2_countSeenOf : GoodIn wsX7_hide wsX2_countSeenOf := goodIn_r _ [65, 19, 66, 67, 68, 69, 17, 70, 71, 72, 73, 11, 74, 75, 76, 77, 78, 79, 61, 21, 80, 81, 50, 82, 83, 22, 23, 24, 25, 26, 84, 85, 86, 87, 20, 106, 107, 108, 95, 96, 97, 98, 99, 100, 101, 102, 103, 104, 105] (by decide +kernel) (by decide +kernel)
set_option maxRecDepth 20000 in
theorem gX7_hide_X2_countSeenOf : GoodIn wsX7_hide (wsV RX7 192 RX2 yX2_countSeenOf wsX2_countSeenOf) := goodIn_app (goodIn_of _ (by decide +kernel)) ggX7_hide_X2_countSeenOf
theorem dX7_hide_0 : decode cX7_hide 0 = .ok (.iload_n 1, 1) := by decide +kernel
theorem dX7_hide_1 : decode cX7_hide 1 = .ok (.iconst 0, 1) := by decide +kernel
theorem dX7_hide_2 : decode cX7_hide 2 = .ok (.iconst 1, 1) := by decide +kernel
theorem dX7_hide_3 : decode cX7_hide 3 = .ok (.invokestatic 108, 3) := by decide +kernel
theorem dX7_hide_6 : decode cX7_hide 6 = .ok (.ifCond .ne 6, 3) := by decide +kernel
theorem dX7_hide_9 : decode cX7_hide 9 = .ok (.bipush (-2), 2) := by decide +kernel
theorem dX7_hide_11 : decode cX7_hide 11 = .ok (.ireturn, 1) := by decide +kernel
theorem dX7_hide_12 : decode cX7_hide 12 = .ok (.aload_n 0, 1) := by decide +kernel
theorem dX7_hide_13 : decode cX7_hide 13 = .ok (.getfield 20, 3) := by decide +kernel
theorem dX7_hide_16 : decode cX7_hide 16 = .ok (.invokevirtual 112, 3) := by decide +kernel
theorem dX7_hide_19 : decode cX7_hide 19 = .ok (.ifCond .ne 6, 3) := by decide +kernel
theorem dX7_hide_22 : decode cX7_hide 22 = .ok (.bipush (-3), 2) := by decide +kernel
theorem dX7_hide_24 : decode cX7_hide 24 = .ok (.ireturn, 1) := by decide +kernel
theorem dX7_hide_25 : decode cX7_hide 25 = .ok (.aload_n 0, 1) := by decide +kernel
theorem dX7_hide_26 : decode cX7_hide 26 = .ok (.getfield 29, 3) := by decide +kernel
theorem dX7_hide_29 : decode cX7_hide 29 = .ok (.invokevirtual 185, 3) := by decide +kernel
theorem dX7_hide_32 : decode cX7_hide 32 = .ok (.iconst 0, 1) := by decide +kernel
theorem dX7_hide_33 : decode cX7_hide 33 = .ok (.istore_n 2, 1) := by decide +kernel
theorem dX7_hide_34 : decode cX7_hide 34 = .ok (.iconst 0, 1) := by decide +kernel
theorem dX7_hide_35 : decode cX7_hide 35 = .ok (.istore_n 3, 1) := by decide +kernel
theorem dX7_hide_36 : decode cX7_hide 36 = .ok (.iconst 0, 1) := by decide +kernel
theorem dX7_hide_37 : decode cX7_hide 37 = .ok (.istore 4, 2) := by decide +kernel
theorem dX7_hide_39 : decode cX7_hide 39 = .ok (.iload 4, 2) := by decide +kernel
theorem dX7_hide_41 : decode cX7_hide 41 = .ok (.aload_n 0, 1) := by decide +kernel
theorem dX7_hide_42 : decode cX7_hide 42 = .ok (.getfield 20, 3) := by decide +kernel
theorem dX7_hide_45 : decode cX7_hide 45 = .ok (.getfield 80, 3) := by decide +kernel
theorem dX7_hide_48 : decode cX7_hide 48 = .ok (.if_icmp .ge 32, 3) := by decide +kernel
theorem dX7_hide_51 : decode cX7_hide 51 = .ok (.aload_n 0, 1) := by decide +kernel
theorem dX7_hide_52 : decode cX7_hide 52 = .ok (.getfield 29, 3) := by decide +kernel
theorem dX7_hide_55 : decode cX7_hide 55 = .ok (.iload 4, 2) := by decide +kernel
theorem dX7_hide_57 : decode cX7_hide 57 = .ok (.invokevirtual 192, 3) := by decide +kernel
theorem dX7_hide_60 : decode cX7_hide 60 = .ok (.istore 5, 2) := by decide +kernel
theorem dX7_hide_62 : decode cX7_hide 62 = .ok (.iload 5, 2) := by decide +kernel
theorem dX7_hide_64 : decode cX7_hide 64 = .ok (.iload_n 3, 1) := by decide +kernel
theorem dX7_hide_65 : decode cX7_hide 65 = .ok (.if_icmp .le 9, 3) := by decide +kernel
theorem dX7_hide_68 : decode cX7_hide 68 = .ok (.iload 4, 2) := by decide +kernel
theorem dX7_hide_70 : decode cX7_hide 70 = .ok (.istore_n 2, 1) := by decide +kernel
theorem dX7_hide_71 : decode cX7_hide 71 = .ok (.iload 5, 2) := by decide +kernel
theorem dX7_hide_73 : decode cX7_hide 73 = .ok (.istore_n 3, 1) := by decide +kernel
theorem dX7_hide_74 : decode cX7_hide 74 = .ok (.iinc 4 1, 3) := by decide +kernel
theorem dX7_hide_77 : decode cX7_hide 77 = .ok (.goto (-38), 3) := by decide +kernel
theorem dX7_hide_80 : decode cX7_hide 80 = .ok (.iload_n 1, 1) := by decide +kernel
theorem dX7_hide_81 : decode cX7_hide 81 = .ok (.ifCond .ne 7, 3) := by decide +kernel
theorem dX7_hide_84 : decode cX7_hide 84 = .ok (.iload_n 2, 1) := by decide +kernel
theorem dX7_hide_85 : decode cX7_hide 85 = .ok (.goto 4, 3) := by decide +kernel
theorem dX7_hide_88 : decode cX7_hide 88 = .ok (.iload_n 3, 1) := by decide +kernel
theorem dX7_hide_89 : decode cX7_hide 89 = .ok (.ireturn, 1) := by decide +kernel
set_option maxRecDepth 20000 in
theorem ggX7_hung_X6_hasCoat : GoodIn wsX7_hung wsX6_hasCoat := goodIn_r _ [9, 10, 70, 71, 72, 73, 74, 75, 76, 77, 78, 79, 80] (by decide +kernel) (by decide +kernel)
set_option maxRecDepth 20000 in
theorem gX7_hung_X6_hasCoat : GoodIn wsX7_hung (wsV RX7 143 RX6 yX6_hasCoat wsX6_hasCoat) := goodIn_app (goodIn_of _ (by decide +kernel)) ggX7_hung_X6_hasCoat
set_option maxRecDepth 20000 in
theorem ggX7_hung_X7_isSheet : GoodIn wsX7_hung wsX7_isSheet := goodIn_r _ [14, 15, 16, 13, 17] (by decide +kernel) (by decide +kernel)
set_option maxRecDepth 20000 in
theorem gX7_hung_X7_isSheet : GoodIn wsX7_hung (va_wsS RX7 54 yX7_isSheet wsX7_isSheet) := goodIn_app (goodIn_of _ (by decide +kernel)) ggX7_hung_X7_isSheet
set_option maxRecDepth 20000 in
theorem ggX7_hung_X7_isWithin : GoodIn wsX7_hung wsX7_isWithin := goodIn_r _ [17] (by decide +kernel) (by decide +kernel)
set_option maxRecDepth 20000 in
theorem gX7_hung_X7_isWithin : GoodIn wsX7_hung (va_wsS RX7 108 yX7_isWithin wsX7_isWithin) := goodIn_app (goodIn_of _ (by decide +kernel)) ggX7_hung_X7_isWithin
set_option maxRecDepth 20000 in
theorem ggX7_hung_X7_isSort : GoodIn wsX7_hung wsX7_isSort := goodIn_r _ [20, 15, 16, 13, 17] (by decide +kernel) (by decide +kernel)
set_option maxRecDepth 20000 in
theorem gX7_hung_X7_isSort : GoodIn wsX7_hung (va_wsS RX7 58 yX7_isSort wsX7_isSort) := goodIn_app (goodIn_of _ (by decide +kernel)) ggX7_hung_X7_isSort
set_option maxRecDepth 20000 in
theorem ggX7_hung_X5_faultOfCells : GoodIn wsX7_hung wsX5_faultOfCells := goodIn_r _ [25, 26, 27, 28, 24, 29, 30, 31, 32, 33, 34, 35, 36, 81, 82, 83, 84] (by decide +kernel) (by decide +kernel)
set_option maxRecDepth 20000 in
theorem gX7_hung_X5_faultOfCells : GoodIn wsX7_hung (wsV RX7 239 RX5 yX5_faultOfCells wsX5_faultOfCells) := goodIn_app (goodIn_of _ (by decide +kernel)) ggX7_hung_X5_faultOfCells
set_option maxRecDepth 20000 in
theorem ggX7_hung_X7_failed : GoodIn wsX7_hung wsX7_failed := goodIn_r _ [40, 1, 63, 64, 65, 66, 67, 68, 69] (by decide +kernel) (by decide +kernel)
set_option maxRecDepth 20000 in
theorem gX7_hung_X7_failed : GoodIn wsX7_hung (wsV RX7 69 RX7 yX7_failed wsX7_failed) := goodIn_app (goodIn_of _ (by decide +kernel)) ggX7_hung_X7_failed
set_option maxRecDepth 20000 in
theorem ggX7_hung_X7_isAsTold : GoodIn wsX7_hung wsX7_isAsTold := goodIn_r _ [44, 3, 45, 2, 46, 47, 48, 49, 50, 51, 52, 53, 54, 55, 56, 57, 58, 59, 60, 61, 62, 63, 64, 65, 66, 67, 68, 69, 81, 82, 83, 84, 70, 71, 72, 73, 74, 75, 76, 77, 78, 79, 80, 85, 86] (by decide +kernel) (by decide +kernel)
set_option maxRecDepth 20000 in
theorem gX7_hung_X7_isAsTold : GoodIn wsX7_hung (wsV RX7 242 RX7 yX7_isAsTold wsX7_isAsTold) := goodIn_app (goodIn_of _ (by decide +kernel)) ggX7_hung_X7_isAsTold
theorem dX7_hung_0 : decode cX7_hung 0 = .ok (.aload_n 0, 1) := by decide +kernel
theorem dX7_hung_1 : decode cX7_hung 1 = .ok (.iconst 0, 1) := by decide +kernel
theorem dX7_hung_2 : decode cX7_hung 2 = .ok (.putfield 50, 3) := by decide +kernel
theorem dX7_hung_5 : decode cX7_hung 5 = .ok (.aload_n 0, 1) := by decide +kernel
theorem dX7_hung_6 : decode cX7_hung 6 = .ok (.getfield 20, 3) := by decide +kernel
theorem dX7_hung_9 : decode cX7_hung 9 = .ok (.iload_n 1, 1) := by decide +kernel
theorem dX7_hung_10 : decode cX7_hung 10 = .ok (.invokevirtual 143, 3) := by decide +kernel
theorem dX7_hung_13 : decode cX7_hung 13 = .ok (.ifCond .eq 10, 3) := by decide +kernel
theorem dX7_hung_16 : decode cX7_hung 16 = .ok (.iload_n 3, 1) := by decide +kernel
theorem dX7_hung_17 : decode cX7_hung 17 = .ok (.invokestatic 54, 3) := by decide +kernel
theorem dX7_hung_20 : decode cX7_hung 20 = .ok (.ifCond .ne 5, 3) := by decide +kernel
theorem dX7_hung_23 : decode cX7_hung 23 = .ok (.iconst (-1), 1) := by decide +kernel
theorem dX7_hung_24 : decode cX7_hung 24 = .ok (.ireturn, 1) := by decide +kernel
theorem dX7_hung_25 : decode cX7_hung 25 = .ok (.iload_n 2, 1) := by decide +kernel
theorem dX7_hung_26 : decode cX7_hung 26 = .ok (.iconst 0, 1) := by decide +kernel
theorem dX7_hung_27 : decode cX7_hung 27 = .ok (.bipush 9, 2) := by decide +kernel
theorem dX7_hung_29 : decode cX7_hung 29 = .ok (.invokestatic 108, 3) := by decide +kernel
theorem dX7_hung_32 : decode cX7_hung 32 = .ok (.ifCond .eq 21, 3) := by decide +kernel
theorem dX7_hung_35 : decode cX7_hung 35 = .ok (.iload 6, 2) := by decide +kernel
theorem dX7_hung_37 : decode cX7_hung 37 = .ok (.iconst 0, 1) := by decide +kernel
theorem dX7_hung_38 : decode cX7_hung 38 = .ok (.iconst 2, 1) := by decide +kernel
theorem dX7_hung_39 : decode cX7_hung 39 = .ok (.invokestatic 108, 3) := by decide +kernel
theorem dX7_hung_42 : decode cX7_hung 42 = .ok (.ifCond .eq 11, 3) := by decide +kernel
theorem dX7_hung_45 : decode cX7_hung 45 = .ok (.iload 4, 2) := by decide +kernel
theorem dX7_hung_47 : decode cX7_hung 47 = .ok (.invokestatic 58, 3) := by decide +kernel
theorem dX7_hung_50 : decode cX7_hung 50 = .ok (.ifCond .ne 6, 3) := by decide +kernel
theorem dX7_hung_53 : decode cX7_hung 53 = .ok (.bipush (-2), 2) := by decide +kernel
theorem dX7_hung_55 : decode cX7_hung 55 = .ok (.ireturn, 1) := by decide +kernel
theorem dX7_hung_56 : decode cX7_hung 56 = .ok (.aload_n 0, 1) := by decide +kernel
theorem dX7_hung_57 : decode cX7_hung 57 = .ok (.getfield 13, 3) := by decide +kernel
theorem dX7_hung_60 : decode cX7_hung 60 = .ok (.iload_n 3, 1) := by decide +kernel
theorem dX7_hung_61 : decode cX7_hung 61 = .ok (.aaload, 1) := by decide +kernel
theorem dX7_hung_62 : decode cX7_hung 62 = .ok (.iload 4, 2) := by decide +kernel
theorem dX7_hung_64 : decode cX7_hung 64 = .ok (.iload 5, 2) := by decide +kernel
theorem dX7_hung_66 : decode cX7_hung 66 = .ok (.iconst 3, 1) := by decide +kernel
theorem dX7_hung_67 : decode cX7_hung 67 = .ok (.invokevirtual 239, 3) := by decide +kernel
theorem dX7_hung_70 : decode cX7_hung 70 = .ok (.istore 7, 2) := by decide +kernel
theorem dX7_hung_72 : decode cX7_hung 72 = .ok (.iload 7, 2) := by decide +kernel
theorem dX7_hung_74 : decode cX7_hung 74 = .ok (.ifCond .eq 10, 3) := by decide +kernel
theorem dX7_hung_77 : decode cX7_hung 77 = .ok (.aload_n 0, 1) := by decide +kernel
theorem dX7_hung_78 : decode cX7_hung 78 = .ok (.iload 7, 2) := by decide +kernel
theorem dX7_hung_80 : decode cX7_hung 80 = .ok (.invokevirtual 69, 3) := by decide +kernel
theorem dX7_hung_83 : decode cX7_hung 83 = .ok (.ireturn, 1) := by decide +kernel
theorem dX7_hung_84 : decode cX7_hung 84 = .ok (.iconst 0, 1) := by decide +kernel
theorem dX7_hung_85 : decode cX7_hung 85 = .ok (.istore 8, 2) := by decide +kernel
theorem dX7_hung_87 : decode cX7_hung 87 = .ok (.bipush (-9), 2) := by decide +kernel
theorem dX7_hung_89 : decode cX7_hung 89 = .ok (.istore 9, 2) := by decide +kernel
theorem dX7_hung_91 : decode cX7_hung 91 = .ok (.bipush (-9), 2) := by decide +kernel
theorem dX7_hung_93 : decode cX7_hung 93 = .ok (.istore 10, 2) := by decide +kernel
theorem dX7_hung_95 : decode cX7_hung 95 = .ok (.iconst 0, 1) := by decide +kernel
theorem dX7_hung_96 : decode cX7_hung 96 = .ok (.istore 11, 2) := by decide +kernel
theorem dX7_hung_98 : decode cX7_hung 98 = .ok (.iload 11, 2) := by decide +kernel
theorem dX7_hung_100 : decode cX7_hung 100 = .ok (.aload_n 0, 1) := by decide +kernel
theorem dX7_hung_101 : decode cX7_hung 101 = .ok (.getfield 20, 3) := by decide +kernel
theorem dX7_hung_104 : decode cX7_hung 104 = .ok (.getfield 122, 3) := by decide +kernel
theorem dX7_hung_107 : decode cX7_hung 107 = .ok (.if_icmp .gt 44, 3) := by decide +kernel
theorem dX7_hung_110 : decode cX7_hung 110 = .ok (.aload_n 0, 1) := by decide +kernel
theorem dX7_hung_111 : decode cX7_hung 111 = .ok (.iload_n 1, 1) := by decide +kernel
theorem dX7_hung_112 : decode cX7_hung 112 = .ok (.iload_n 2, 1) := by decide +kernel
theorem dX7_hung_113 : decode cX7_hung 113 = .ok (.iload 11, 2) := by decide +kernel
theorem dX7_hung_115 : decode cX7_hung 115 = .ok (.iload_n 3, 1) := by decide +kernel
theorem dX7_hung_116 : decode cX7_hung 116 = .ok (.iload 5, 2) := by decide +kernel
theorem dX7_hung_118 : decode cX7_hung 118 = .ok (.invokevirtual 242, 3) := by decide +kernel
theorem dX7_hung_121 : decode cX7_hung 121 = .ok (.ifCond .eq 24, 3) := by decide +kernel
theorem dX7_hung_124 : decode cX7_hung 124 = .ok (.iload 8, 2) := by decide +kernel
theorem dX7_hung_126 : decode cX7_hung 126 = .ok (.ifCond .ne 8, 3) := by decide +kernel
theorem dX7_hung_129 : decode cX7_hung 129 = .ok (.iload 11, 2) := by decide +kernel
theorem dX7_hung_131 : decode cX7_hung 131 = .ok (.goto 5, 3) := by decide +kernel
theorem dX7_hung_134 : decode cX7_hung 134 = .ok (.iload 9, 2) := by decide +kernel
theorem dX7_hung_136 : decode cX7_hung 136 = .ok (.istore 9, 2) := by decide +kernel
theorem dX7_hung_138 : decode cX7_hung 138 = .ok (.iload 11, 2) := by decide +kernel
theorem dX7_hung_140 : decode cX7_hung 140 = .ok (.istore 10, 2) := by decide +kernel
theorem dX7_hung_142 : decode cX7_hung 142 = .ok (.iinc 8 1, 3) := by decide +kernel
theorem dX7_hung_145 : decode cX7_hung 145 = .ok (.iinc 11 1, 3) := by decide +kernel
theorem dX7_hung_148 : decode cX7_hung 148 = .ok (.goto (-50), 3) := by decide +kernel
theorem dX7_hung_151 : decode cX7_hung 151 = .ok (.iload 6, 2) := by decide +kernel
theorem dX7_hung_153 : decode cX7_hung 153 = .ok (.ifCond .ne 6, 3) := by decide +kernel
theorem dX7_hung_156 : decode cX7_hung 156 = .ok (.iload 8, 2) := by decide +kernel
theorem dX7_hung_158 : decode cX7_hung 158 = .ok (.ireturn, 1) := by decide +kernel
theorem dX7_hung_159 : decode cX7_hung 159 = .ok (.iload 6, 2) := by decide +kernel
theorem dX7_hung_161 : decode cX7_hung 161 = .ok (.iconst 1, 1) := by decide +kernel
theorem dX7_hung_162 : decode cX7_hung 162 = .ok (.if_icmp .ne 8, 3) := by decide +kernel
theorem dX7_hung_165 : decode cX7_hung 165 = .ok (.iload 9, 2) := by decide +kernel
theorem dX7_hung_167 : decode cX7_hung 167 = .ok (.goto 5, 3) := by decide +kernel
theorem dX7_hung_170 : decode cX7_hung 170 = .ok (.iload 10, 2) := by decide +kernel
theorem dX7_hung_172 : decode cX7_hung 172 = .ok (.ireturn, 1) := by decide +kernel
set_option maxRecDepth 20000 in
theorem ggX7_old_X6_hasCoat : GoodIn wsX7_old wsX6_hasCoat := goodIn_r _ [9, 10, 70, 71, 72, 73, 74, 75, 76, 77, 78, 79, 80] (by decide +kernel) (by decide +kernel)
set_option maxRecDepth 20000 in
theorem gX7_old_X6_hasCoat : GoodIn wsX7_old (wsV RX7 143 RX6 yX6_hasCoat wsX6_hasCoat) := goodIn_app (goodIn_of _ (by decide +kernel)) ggX7_old_X6_hasCoat
set_option maxRecDepth 20000 in
theorem ggX7_old_X7_isSheet : GoodIn wsX7_old wsX7_isSheet := goodIn_r _ [14, 15, 16, 13, 17] (by decide +kernel) (by decide +kernel)
set_option maxRecDepth 20000 in
theorem gX7_old_X7_isSheet : GoodIn wsX7_old (va_wsS RX7 54 yX7_isSheet wsX7_isSheet) := goodIn_app (goodIn_of _ (by decide +kernel)) ggX7_old_X7_isSheet
set_option maxRecDepth 20000 in
theorem ggX7_old_X7_isWithin : GoodIn wsX7_old wsX7_isWithin := goodIn_r _ [17] (by decide +kernel) (by decide +kernel)
set_option maxRecDepth 20000 in
theorem gX7_old_X7_isWithin : GoodIn wsX7_old (va_wsS RX7 108 yX7_isWithin wsX7_isWithin) := goodIn_app (goodIn_of _ (by decide +kernel)) ggX7_old_X7_isWithin
set_option maxRecDepth 20000 in
theorem ggX7_old_X7_isSort : GoodIn wsX7_old wsX7_isSort := goodIn_r _ [20, 15, 16, 13, 17] (by decide +kernel) (by decide +kernel)
set_option maxRecDepth 20000 in
theorem gX7_old_X7_isSort : GoodIn wsX7_old (va_wsS RX7 58 yX7_isSort wsX7_isSort) := goodIn_app (goodIn_of _ (by decide +kernel)) ggX7_old_X7_isSort
set_option maxRecDepth 20000 in
theorem ggX7_old_X5_faultOfCells : GoodIn wsX7_old wsX5_faultOfCells := goodIn_r _ [25, 26, 27, 28, 24, 29, 30, 31, 32, 33, 34, 35, 36, 81, 82, 83, 84] (by decide +kernel) (by decide +kernel)
set_option maxRecDepth 20000 in
theorem gX7_old_X5_faultOfCells : GoodIn wsX7_old (wsV RX7 239 RX5 yX5_faultOfCells wsX5_faultOfCells) := goodIn_app (goodIn_of _ (by decide +kernel)) ggX7_old_X5_faultOfCells
set_option maxRecDepth 20000 in
theorem ggX7_old_X7_failed : GoodIn wsX7_old wsX7_failed := goodIn_r _ [40, 1, 63, 64, 65, 66, 67, 68, 69] (by decide +kernel) (by decide +kernel)
set_option maxRecDepth 20000 in
theorem gX7_old_X7_failed : GoodIn wsX7_old (wsV RX7 69 RX7 yX7_failed wsX7_failed) := goodIn_app (goodIn_of _ (by decide +kernel)) ggX7_old_X7_failed
set_option maxRecDepth 20000 in
theorem ggX7_old_X7_isAsTold : GoodIn wsX7_old wsX7_isAsTold := goodIn_r _ [44, 4, 45, 2, 46, 47, 48, 49, 50, 51, 52, 53, 54, 55, 56, 57, 58, 59, 60, 61, 62, 63, 64, 65, 66, 67, 68, 69, 81, 82, 83, 84, 70, 71, 72, 73, 74, 75, 76, 77, 78, 79, 80, 85, 86] (by decide +kernel) (by decide +kernel)
set_option maxRecDepth 20000 in
theorem gX7_old_X7_isAsTold : GoodIn wsX7_old (wsV RX7 242 RX7 yX7_isAsTold wsX7_isAsTold) := goodIn_app (goodIn_of _ (by decide +kernel)) ggX7_old_X7_isAsTold
theorem dX7_old_0 : decode cX7_old 0 = .ok (.aload_n 0, 1) := by decide +kernel
theorem dX7_old_1 : decode cX7_old 1 = .ok (.iconst 0, 1) := by decide +kernel
theorem dX7_old_2 : decode cX7_old 2 = .ok (.putfield 50, 3) := by decide +kernel
theorem dX7_old_5 : decode cX7_old 5 = .ok (.aload_n 0, 1) := by decide +kernel
theorem dX7_old_6 : decode cX7_old 6 = .ok (.getfield 20, 3) := by decide +kernel
theorem dX7_old_9 : decode cX7_old 9 = .ok (.iload_n 1, 1) := by decide +kernel
theorem dX7_old_10 : decode cX7_old 10 = .ok (.invokevirtual 143, 3) := by decide +kernel
theorem dX7_old_13 : decode cX7_old 13 = .ok (.ifCond .eq 28, 3) := by decide +kernel
theorem dX7_old_16 : decode cX7_old 16 = .ok (.iload_n 3, 1) := by decide +kernel
theorem dX7_old_17 : decode cX7_old 17 = .ok (.invokestatic 54, 3) := by decide +kernel
theorem dX7_old_20 : decode cX7_old 20 = .ok (.ifCond .eq 21, 3) := by decide +kernel
theorem dX7_old_23 : decode cX7_old 23 = .ok (.iload_n 2, 1) := by decide +kernel
theorem dX7_old_24 : decode cX7_old 24 = .ok (.iconst 0, 1) := by decide +kernel
theorem dX7_old_25 : decode cX7_old 25 = .ok (.bipush 9, 2) := by decide +kernel
theorem dX7_old_27 : decode cX7_old 27 = .ok (.invokestatic 108, 3) := by decide +kernel
theorem dX7_old_30 : decode cX7_old 30 = .ok (.ifCond .eq 11, 3) := by decide +kernel
theorem dX7_old_33 : decode cX7_old 33 = .ok (.iload 4, 2) := by decide +kernel
theorem dX7_old_35 : decode cX7_old 35 = .ok (.invokestatic 58, 3) := by decide +kernel
theorem dX7_old_38 : decode cX7_old 38 = .ok (.ifCond .ne 7, 3) := by decide +kernel
theorem dX7_old_41 : decode cX7_old 41 = .ok (.ldc2_w 246, 3) := by decide +kernel
theorem dX7_old_44 : decode cX7_old 44 = .ok (.lreturn, 1) := by decide +kernel
theorem dX7_old_45 : decode cX7_old 45 = .ok (.aload_n 0, 1) := by decide +kernel
theorem dX7_old_46 : decode cX7_old 46 = .ok (.getfield 13, 3) := by decide +kernel
theorem dX7_old_49 : decode cX7_old 49 = .ok (.iload_n 3, 1) := by decide +kernel
theorem dX7_old_50 : decode cX7_old 50 = .ok (.aaload, 1) := by decide +kernel
theorem dX7_old_51 : decode cX7_old 51 = .ok (.iload 4, 2) := by decide +kernel
theorem dX7_old_53 : decode cX7_old 53 = .ok (.iload 5, 2) := by decide +kernel
theorem dX7_old_55 : decode cX7_old 55 = .ok (.iconst 3, 1) := by decide +kernel
theorem dX7_old_56 : decode cX7_old 56 = .ok (.invokevirtual 239, 3) := by decide +kernel
theorem dX7_old_59 : decode cX7_old 59 = .ok (.istore 6, 2) := by decide +kernel
theorem dX7_old_61 : decode cX7_old 61 = .ok (.iload 6, 2) := by decide +kernel
theorem dX7_old_63 : decode cX7_old 63 = .ok (.ifCond .eq 14, 3) := by decide +kernel
theorem dX7_old_66 : decode cX7_old 66 = .ok (.aload_n 0, 1) := by decide +kernel
theorem dX7_old_67 : decode cX7_old 67 = .ok (.iload 6, 2) := by decide +kernel
theorem dX7_old_69 : decode cX7_old 69 = .ok (.invokevirtual 69, 3) := by decide +kernel
theorem dX7_old_72 : decode cX7_old 72 = .ok (.pop, 1) := by decide +kernel
theorem dX7_old_73 : decode cX7_old 73 = .ok (.ldc2_w 246, 3) := by decide +kernel
theorem dX7_old_76 : decode cX7_old 76 = .ok (.lreturn, 1) := by decide +kernel
theorem dX7_old_77 : decode cX7_old 77 = .ok (.lconst 0, 1) := by decide +kernel
theorem dX7_old_78 : decode cX7_old 78 = .ok (.lstore 7, 2) := by decide +kernel
theorem dX7_old_80 : decode cX7_old 80 = .ok (.iconst 0, 1) := by decide +kernel
theorem dX7_old_81 : decode cX7_old 81 = .ok (.istore 9, 2) := by decide +kernel
theorem dX7_old_83 : decode cX7_old 83 = .ok (.iload 9, 2) := by decide +kernel
theorem dX7_old_85 : decode cX7_old 85 = .ok (.bipush 40, 2) := by decide +kernel
theorem dX7_old_87 : decode cX7_old 87 = .ok (.if_icmp .gt 32, 3) := by decide +kernel
theorem dX7_old_90 : decode cX7_old 90 = .ok (.aload_n 0, 1) := by decide +kernel
theorem dX7_old_91 : decode cX7_old 91 = .ok (.iload_n 1, 1) := by decide +kernel
theorem dX7_old_92 : decode cX7_old 92 = .ok (.iload_n 2, 1) := by decide +kernel
theorem dX7_old_93 : decode cX7_old 93 = .ok (.iload 9, 2) := by decide +kernel
theorem dX7_old_95 : decode cX7_old 95 = .ok (.iload_n 3, 1) := by decide +kernel
theorem dX7_old_96 : decode cX7_old 96 = .ok (.iload 5, 2) := by decide +kernel
theorem dX7_old_98 : decode cX7_old 98 = .ok (.invokevirtual 242, 3) := by decide +kernel
theorem dX7_old_101 : decode cX7_old 101 = .ok (.ifCond .eq 12, 3) := by decide +kernel
theorem dX7_old_104 : decode cX7_old 104 = .ok (.lload 7, 2) := by decide +kernel
theorem dX7_old_106 : decode cX7_old 106 = .ok (.lconst 1, 1) := by decide +kernel
theorem dX7_old_107 : decode cX7_old 107 = .ok (.iload 9, 2) := by decide +kernel
theorem dX7_old_109 : decode cX7_old 109 = .ok (.lshl, 1) := by decide +kernel
theorem dX7_old_110 : decode cX7_old 110 = .ok (.lor, 1) := by decide +kernel
theorem dX7_old_111 : decode cX7_old 111 = .ok (.lstore 7, 2) := by decide +kernel
theorem dX7_old_113 : decode cX7_old 113 = .ok (.iinc 9 1, 3) := by decide +kernel
theorem dX7_old_116 : decode cX7_old 116 = .ok (.goto (-33), 3) := by decide +kernel
theorem dX7_old_119 : decode cX7_old 119 = .ok (.lload 7, 2) := by decide +kernel
theorem dX7_old_121 : decode cX7_old 121 = .ok (.lreturn, 1) := by decide +kernel
set_option maxRecDepth 20000 in
theorem ggX7_sheet_X7_isSheet : GoodIn wsX7_sheet wsX7_isSheet := goodIn_r _ [6, 7, 8, 5, 9] (by decide +kernel) (by decide +kernel)
set_option maxRecDepth 20000 in
theorem gX7_sheet_X7_isSheet : GoodIn wsX7_sheet (va_wsS RX7 54 yX7_isSheet wsX7_isSheet) := goodIn_app (goodIn_of _ (by decide +kernel)) ggX7_sheet_X7_isSheet
set_option maxRecDepth 20000 in
theorem ggX7_sheet_X7_isSort : GoodIn wsX7_sheet wsX7_isSort := goodIn_r _ [12, 7, 8, 5, 9] (by decide +kernel) (by decide +kernel)
set_option maxRecDepth 20000 in
theorem gX7_sheet_X7_isSort : GoodIn wsX7_sheet (va_wsS RX7 58 yX7_isSort wsX7_isSort) := goodIn_app (goodIn_of _ (by decide +kernel)) ggX7_sheet_X7_isSort
set_option maxRecDepth 20000 in
theorem ggX7_sheet_X7_failed : GoodIn wsX7_sheet wsX7_failed := goodIn_r _ [16, 1, 30, 31, 32, 33, 34, 35, 36] (by decide +kernel) (by decide +kernel)
set_option maxRecDepth 20000 in
theorem gX7_sheet_X7_failed : GoodIn wsX7_sheet (wsV RX7 69 RX7 yX7_failed wsX7_failed) := goodIn_app (goodIn_of _ (by decide +kernel)) ggX7_sheet_X7_failed
set_option maxRecDepth 20000 in
theorem ggX7_sheet_X5_begin : GoodIn wsX7_sheet wsX5_begin := goodIn_r _ [21, 22, 23, 24, 25, 26, 27, 28, 29, 37, 38, 39, 40] (by decide +kernel) (by decide +kernel)
set_option maxRecDepth 20000 in
theorem gX7_sheet_X5_begin : GoodIn wsX7_sheet (wsV RX7 248 RX5 yX5_begin wsX5_begin) := goodIn_app (goodIn_of _ (by decide +kernel)) ggX7_sheet_X5_begin
theorem dX7_sheet_0 : decode cX7_sheet 0 = .ok (.aload_n 0, 1) := by decide +kernel
theorem dX7_sheet_1 : decode cX7_sheet 1 = .ok (.iconst 0, 1) := by decide +kernel
theorem dX7_sheet_2 : decode cX7_sheet 2 = .ok (.putfield 50, 3) := by decide +kernel
theorem dX7_sheet_5 : decode cX7_sheet 5 = .ok (.iload_n 1, 1) := by decide +kernel
theorem dX7_sheet_6 : decode cX7_sheet 6 = .ok (.invokestatic 54, 3) := by decide +kernel
theorem dX7_sheet_9 : decode cX7_sheet 9 = .ok (.ifCond .ne 5, 3) := by decide +kernel
theorem dX7_sheet_12 : decode cX7_sheet 12 = .ok (.iconst (-1), 1) := by decide +kernel
theorem dX7_sheet_13 : decode cX7_sheet 13 = .ok (.ireturn, 1) := by decide +kernel
theorem dX7_sheet_14 : decode cX7_sheet 14 = .ok (.iload_n 2, 1) := by decide +kernel
theorem dX7_sheet_15 : decode cX7_sheet 15 = .ok (.invokestatic 58, 3) := by decide +kernel
theorem dX7_sheet_18 : decode cX7_sheet 18 = .ok (.ifCond .eq 9, 3) := by decide +kernel
theorem dX7_sheet_21 : decode cX7_sheet 21 = .ok (.iload_n 3, 1) := by decide +kernel
theorem dX7_sheet_22 : decode cX7_sheet 22 = .ok (.bipush 40, 2) := by decide +kernel
theorem dX7_sheet_24 : decode cX7_sheet 24 = .ok (.if_icmp .le 6, 3) := by decide +kernel
theorem dX7_sheet_27 : decode cX7_sheet 27 = .ok (.bipush (-2), 2) := by decide +kernel
theorem dX7_sheet_29 : decode cX7_sheet 29 = .ok (.ireturn, 1) := by decide +kernel
theorem dX7_sheet_30 : decode cX7_sheet 30 = .ok (.iload_n 3, 1) := by decide +kernel
theorem dX7_sheet_31 : decode cX7_sheet 31 = .ok (.ifCond .ge 9, 3) := by decide +kernel
theorem dX7_sheet_34 : decode cX7_sheet 34 = .ok (.aload_n 0, 1) := by decide +kernel
theorem dX7_sheet_35 : decode cX7_sheet 35 = .ok (.iconst 4, 1) := by decide +kernel
theorem dX7_sheet_36 : decode cX7_sheet 36 = .ok (.invokevirtual 69, 3) := by decide +kernel
theorem dX7_sheet_39 : decode cX7_sheet 39 = .ok (.ireturn, 1) := by decide +kernel
theorem dX7_sheet_40 : decode cX7_sheet 40 = .ok (.aload_n 0, 1) := by decide +kernel
theorem dX7_sheet_41 : decode cX7_sheet 41 = .ok (.getfield 13, 3) := by decide +kernel
theorem dX7_sheet_44 : decode cX7_sheet 44 = .ok (.iload_n 1, 1) := by decide +kernel
theorem dX7_sheet_45 : decode cX7_sheet 45 = .ok (.aaload, 1) := by decide +kernel
theorem dX7_sheet_46 : decode cX7_sheet 46 = .ok (.iload_n 2, 1) := by decide +kernel
theorem dX7_sheet_47 : decode cX7_sheet 47 = .ok (.iload_n 3, 1) := by decide +kernel
theorem dX7_sheet_48 : decode cX7_sheet 48 = .ok (.invokevirtual 248, 3) := by decide +kernel
theorem dX7_sheet_51 : decode cX7_sheet 51 = .ok (.iconst 1, 1) := by decide +kernel
theorem dX7_sheet_52 : decode cX7_sheet 52 = .ok (.ireturn, 1) := by decide +kernel
set_option maxRecDepth 20000 in
theorem ggX7_lose_X7_isSheet : GoodIn wsX7_lose wsX7_isSheet := goodIn_r _ [6, 7, 8, 5, 9] (by decide +kernel) (by decide +kernel)
set_option maxRecDepth 20000 in
theorem gX7_lose_X7_isSheet : GoodIn wsX7_lose (va_wsS RX7 54 yX7_isSheet wsX7_isSheet) := goodIn_app (goodIn_of _ (by decide +kernel)) ggX7_lose_X7_isSheet
theorem dX7_lose_0 : decode cX7_lose 0 = .ok (.iload_n 1, 1) := by decide +kernel
theorem dX7_lose_1 : decode cX7_lose 1 = .ok (.invokestatic 54, 3) := by decide +kernel
theorem dX7_lose_4 : decode cX7_lose 4 = .ok (.ifCond .ne 5, 3) := by decide +kernel
theorem dX7_lose_7 : decode cX7_lose 7 = .ok (.iconst (-1), 1) := by decide +kernel
theorem dX7_lose_8 : decode cX7_lose 8 = .ok (.ireturn, 1) := by decide +kernel
theorem dX7_lose_9 : decode cX7_lose 9 = .ok (.aload_n 0, 1) := by decide +kernel
theorem dX7_lose_10 : decode cX7_lose 10 = .ok (.getfield 13, 3) := by decide +kernel
theorem dX7_lose_13 : decode cX7_lose 13 = .ok (.iload_n 1, 1) := by decide +kernel
theorem dX7_lose_14 : decode cX7_lose 14 = .ok (.aaload, 1) := by decide +kernel
theorem dX7_lose_15 : decode cX7_lose 15 = .ok (.getfield 251, 3) := by decide +kernel
theorem dX7_lose_18 : decode cX7_lose 18 = .ok (.istore_n 2, 1) := by decide +kernel
theorem dX7_lose_19 : decode cX7_lose 19 = .ok (.aload_n 0, 1) := by decide +kernel
theorem dX7_lose_20 : decode cX7_lose 20 = .ok (.getfield 13, 3) := by decide +kernel
theorem dX7_lose_23 : decode cX7_lose 23 = .ok (.iload_n 1, 1) := by decide +kernel
theorem dX7_lose_24 : decode cX7_lose 24 = .ok (.aaload, 1) := by decide +kernel
theorem dX7_lose_25 : decode cX7_lose 25 = .ok (.iconst 0, 1) := by decide +kernel
theorem dX7_lose_26 : decode cX7_lose 26 = .ok (.putfield 251, 3) := by decide +kernel
theorem dX7_lose_29 : decode cX7_lose 29 = .ok (.iload_n 2, 1) := by decide +kernel
theorem dX7_lose_30 : decode cX7_lose 30 = .ok (.ifCond .eq 7, 3) := by decide +kernel
theorem dX7_lose_33 : decode cX7_lose 33 = .ok (.iconst 1, 1) := by decide +kernel
theorem dX7_lose_34 : decode cX7_lose 34 = .ok (.goto 4, 3) := by decide +kernel
theorem dX7_lose_37 : decode cX7_lose 37 = .ok (.iconst 0, 1) := by decide +kernel
theorem dX7_lose_38 : decode cX7_lose 38 = .ok (.ireturn, 1) := by decide +kernel
set_option maxRecDepth 20000 in
theorem ggX7_put_X7_isSheet : GoodIn wsX7_put wsX7_isSheet := goodIn_r _ [8, 9, 10, 7, 11] (by decide +kernel) (by decide +kernel)
set_option maxRecDepth 20000 in
theorem gX7_put_X7_isSheet : GoodIn wsX7_put (va_wsS RX7 54 yX7_isSheet wsX7_isSheet) := goodIn_app (goodIn_of _ (by decide +kernel)) ggX7_put_X7_isSheet
set_option maxRecDepth 20000 in
theorem ggX7_put_X7_failed : GoodIn wsX7_put wsX7_failed := goodIn_r _ [15, 1, 27, 28, 29, 30, 31, 32, 33] (by decide +kernel) (by decide +kernel)
set_option maxRecDepth 20000 in
theorem gX7_put_X7_failed : GoodIn wsX7_put (wsV RX7 69 RX7 yX7_failed wsX7_failed) := goodIn_app (goodIn_of _ (by decide +kernel)) ggX7_put_X7_failed
set_option maxRecDepth 20000 in
theorem ggX7_put_X5_reaches : GoodIn wsX7_put wsX5_reaches := goodIn_r _ [20, 21, 34, 35, 36, 37] (by decide +kernel) (by decide +kernel)
set_option maxRecDepth 20000 in
theorem gX7_put_X5_reaches : GoodIn wsX7_put (wsV RX7 65 RX5 yX5_reaches wsX5_reaches) := goodIn_app (goodIn_of _ (by decide +kernel)) ggX7_put_X5_reaches
set_option maxRecDepth 20000 in
theorem ggX7_put_X5_cut : GoodIn wsX7_put wsX5_cut := goodIn_r _ [25, 26, 34, 35, 36, 37] (by decide +kernel) (by decide +kernel)
set_option maxRecDepth 20000 in
theorem gX7_put_X5_cut : GoodIn wsX7_put (wsV RX7 257 RX5 yX5_cut wsX5_cut) := goodIn_app (goodIn_of _ (by decide +kernel)) ggX7_put_X5_cut
theorem dX7_put_0 : decode cX7_put 0 = .ok (.aload_n 0, 1) := by decide +kernel
theorem dX7_put_1 : decode cX7_put 1 = .ok (.iconst 0, 1) := by decide +kernel
theorem dX7_put_2 : decode cX7_put 2 = .ok (.putfield 50, 3) := by decide +kernel
theorem dX7_put_5 : decode cX7_put 5 = .ok (.iload_n 1, 1) := by decide +kernel
theorem dX7_put_6 : decode cX7_put 6 = .ok (.invokestatic 54, 3) := by decide +kernel
theorem dX7_put_9 : decode cX7_put 9 = .ok (.ifCond .ne 5, 3) := by decide +kernel
theorem dX7_put_12 : decode cX7_put 12 = .ok (.iconst (-1), 1) := by decide +kernel
theorem dX7_put_13 : decode cX7_put 13 = .ok (.ireturn, 1) := by decide +kernel
theorem dX7_put_14 : decode cX7_put 14 = .ok (.aload_n 0, 1) := by decide +kernel
theorem dX7_put_15 : decode cX7_put 15 = .ok (.getfield 13, 3) := by decide +kernel
theorem dX7_put_18 : decode cX7_put 18 = .ok (.iload_n 1, 1) := by decide +kernel
theorem dX7_put_19 : decode cX7_put 19 = .ok (.aaload, 1) := by decide +kernel
theorem dX7_put_20 : decode cX7_put 20 = .ok (.astore 4, 2) := by decide +kernel
theorem dX7_put_22 : decode cX7_put 22 = .ok (.aload 4, 2) := by decide +kernel
theorem dX7_put_24 : decode cX7_put 24 = .ok (.getfield 251, 3) := by decide +kernel
theorem dX7_put_27 : decode cX7_put 27 = .ok (.ifCond .ne 9, 3) := by decide +kernel
theorem dX7_put_30 : decode cX7_put 30 = .ok (.aload_n 0, 1) := by decide +kernel
theorem dX7_put_31 : decode cX7_put 31 = .ok (.iconst 1, 1) := by decide +kernel
theorem dX7_put_32 : decode cX7_put 32 = .ok (.invokevirtual 69, 3) := by decide +kernel
theorem dX7_put_35 : decode cX7_put 35 = .ok (.ireturn, 1) := by decide +kernel
theorem dX7_put_36 : decode cX7_put 36 = .ok (.aload 4, 2) := by decide +kernel
theorem dX7_put_38 : decode cX7_put 38 = .ok (.iload_n 2, 1) := by decide +kernel
theorem dX7_put_39 : decode cX7_put 39 = .ok (.iconst 1, 1) := by decide +kernel
theorem dX7_put_40 : decode cX7_put 40 = .ok (.invokevirtual 65, 3) := by decide +kernel
theorem dX7_put_43 : decode cX7_put 43 = .ok (.ifCond .ne 9, 3) := by decide +kernel
theorem dX7_put_46 : decode cX7_put 46 = .ok (.aload_n 0, 1) := by decide +kernel
theorem dX7_put_47 : decode cX7_put 47 = .ok (.iconst 3, 1) := by decide +kernel
theorem dX7_put_48 : decode cX7_put 48 = .ok (.invokevirtual 69, 3) := by decide +kernel
theorem dX7_put_51 : decode cX7_put 51 = .ok (.ireturn, 1) := by decide +kernel
theorem dX7_put_52 : decode cX7_put 52 = .ok (.aload 4, 2) := by decide +kernel
theorem dX7_put_54 : decode cX7_put 54 = .ok (.getfield 254, 3) := by decide +kernel
theorem dX7_put_57 : decode cX7_put 57 = .ok (.iload_n 2, 1) := by decide +kernel
theorem dX7_put_58 : decode cX7_put 58 = .ok (.aload 4, 2) := by decide +kernel
theorem dX7_put_60 : decode cX7_put 60 = .ok (.iload_n 3, 1) := by decide +kernel
theorem dX7_put_61 : decode cX7_put 61 = .ok (.invokevirtual 257, 3) := by decide +kernel
theorem dX7_put_64 : decode cX7_put 64 = .ok (.iastore, 1) := by decide +kernel
theorem dX7_put_65 : decode cX7_put 65 = .ok (.iconst 1, 1) := by decide +kernel
theorem dX7_put_66 : decode cX7_put 66 = .ok (.ireturn, 1) := by decide +kernel
set_option maxRecDepth 20000 in
theorem ggX7_cell_X7_isSheet : GoodIn wsX7_cell wsX7_isSheet := goodIn_r _ [8, 9, 10, 7, 11] (by decide +kernel) (by decide +kernel)
set_option maxRecDepth 20000 in
theorem gX7_cell_X7_isSheet : GoodIn wsX7_cell (va_wsS RX7 54 yX7_isSheet wsX7_isSheet) := goodIn_app (goodIn_of _ (by decide +kernel)) ggX7_cell_X7_isSheet
set_option maxRecDepth 20000 in
theorem ggX7_cell_X7_isSort : GoodIn wsX7_cell wsX7_isSort := goodIn_r _ [14, 9, 10, 7, 11] (by decide +kernel) (by decide +kernel)
set_option maxRecDepth 20000 in
theorem gX7_cell_X7_isSort : GoodIn wsX7_cell (va_wsS RX7 58 yX7_isSort wsX7_isSort) := goodIn_app (goodIn_of _ (by decide +kernel)) ggX7_cell_X7_isSort
set_option maxRecDepth 20000 in
theorem ggX7_cell_X5_faultOfCells : GoodIn wsX7_cell wsX5_faultOfCells := goodIn_r _ [19, 20, 21, 22, 18, 23, 24, 25, 26, 27, 28, 29, 30, 42, 43, 44, 45] (by decide +kernel) (by decide +kernel)
set_option maxRecDepth 20000 in
theorem gX7_cell_X5_faultOfCells : GoodIn wsX7_cell (wsV RX7 239 RX5 yX5_faultOfCells wsX5_faultOfCells) := goodIn_app (goodIn_of _ (by decide +kernel)) ggX7_cell_X5_faultOfCells
set_option maxRecDepth 20000 in
theorem ggX7_cell_X7_failed : GoodIn wsX7_cell wsX7_failed := goodIn_r _ [34, 1, 35, 36, 37, 38, 39, 40, 41] (by decide +kernel) (by decide +kernel)
set_option maxRecDepth 20000 in
theorem gX7_cell_X7_failed : GoodIn wsX7_cell (wsV RX7 69 RX7 yX7_failed wsX7_failed) := goodIn_app (goodIn_of _ (by decide +kernel)) ggX7_cell_X7_failed
theorem dX7_cell_0 : decode cX7_cell 0 = .ok (.aload_n 0, 1) := by decide +kernel
theorem dX7_cell_1 : decode cX7_cell 1 = .ok (.iconst 0, 1) := by decide +kernel
theorem dX7_cell_2 : decode cX7_cell 2 = .ok (.putfield 50, 3) := by decide +kernel
theorem dX7_cell_5 : decode cX7_cell 5 = .ok (.iload_n 1, 1) := by decide +kernel
theorem dX7_cell_6 : decode cX7_cell 6 = .ok (.invokestatic 54, 3) := by decide +kernel
theorem dX7_cell_9 : decode cX7_cell 9 = .ok (.ifCond .eq 10, 3) := by decide +kernel
theorem dX7_cell_12 : decode cX7_cell 12 = .ok (.iload_n 3, 1) := by decide +kernel
theorem dX7_cell_13 : decode cX7_cell 13 = .ok (.invokestatic 58, 3) := by decide +kernel
theorem dX7_cell_16 : decode cX7_cell 16 = .ok (.ifCond .ne 7, 3) := by decide +kernel
theorem dX7_cell_19 : decode cX7_cell 19 = .ok (.ldc2_w 246, 3) := by decide +kernel
theorem dX7_cell_22 : decode cX7_cell 22 = .ok (.lreturn, 1) := by decide +kernel
theorem dX7_cell_23 : decode cX7_cell 23 = .ok (.aload_n 0, 1) := by decide +kernel
theorem dX7_cell_24 : decode cX7_cell 24 = .ok (.getfield 13, 3) := by decide +kernel
theorem dX7_cell_27 : decode cX7_cell 27 = .ok (.iload_n 1, 1) := by decide +kernel
theorem dX7_cell_28 : decode cX7_cell 28 = .ok (.aaload, 1) := by decide +kernel
theorem dX7_cell_29 : decode cX7_cell 29 = .ok (.iload_n 3, 1) := by decide +kernel
theorem dX7_cell_30 : decode cX7_cell 30 = .ok (.iload_n 2, 1) := by decide +kernel
theorem dX7_cell_31 : decode cX7_cell 31 = .ok (.iconst 1, 1) := by decide +kernel
theorem dX7_cell_32 : decode cX7_cell 32 = .ok (.invokevirtual 239, 3) := by decide +kernel
theorem dX7_cell_35 : decode cX7_cell 35 = .ok (.istore 4, 2) := by decide +kernel
theorem dX7_cell_37 : decode cX7_cell 37 = .ok (.iload 4, 2) := by decide +kernel
theorem dX7_cell_39 : decode cX7_cell 39 = .ok (.ifCond .eq 14, 3) := by decide +kernel
theorem dX7_cell_42 : decode cX7_cell 42 = .ok (.aload_n 0, 1) := by decide +kernel
theorem dX7_cell_43 : decode cX7_cell 43 = .ok (.iload 4, 2) := by decide +kernel
theorem dX7_cell_45 : decode cX7_cell 45 = .ok (.invokevirtual 69, 3) := by decide +kernel
theorem dX7_cell_48 : decode cX7_cell 48 = .ok (.pop, 1) := by decide +kernel
theorem dX7_cell_49 : decode cX7_cell 49 = .ok (.ldc2_w 246, 3) := by decide +kernel
theorem dX7_cell_52 : decode cX7_cell 52 = .ok (.lreturn, 1) := by decide +kernel
theorem dX7_cell_53 : decode cX7_cell 53 = .ok (.aload_n 0, 1) := by decide +kernel
theorem dX7_cell_54 : decode cX7_cell 54 = .ok (.getfield 13, 3) := by decide +kernel
theorem dX7_cell_57 : decode cX7_cell 57 = .ok (.iload_n 1, 1) := by decide +kernel
theorem dX7_cell_58 : decode cX7_cell 58 = .ok (.aaload, 1) := by decide +kernel
theorem dX7_cell_59 : decode cX7_cell 59 = .ok (.getfield 254, 3) := by decide +kernel
theorem dX7_cell_62 : decode cX7_cell 62 = .ok (.iload_n 2, 1) := by decide +kernel
theorem dX7_cell_63 : decode cX7_cell 63 = .ok (.iaload, 1) := by decide +kernel
theorem dX7_cell_64 : decode cX7_cell 64 = .ok (.i2l, 1) := by decide +kernel
theorem dX7_cell_65 : decode cX7_cell 65 = .ok (.lreturn, 1) := by decide +kernel
set_option maxRecDepth 20000 in
theorem ggX7_copy_X7_isSheet : GoodIn wsX7_copy wsX7_isSheet := goodIn_r _ [13, 14, 15, 12, 16] (by decide +kernel) (by decide +kernel)
set_option maxRecDepth 20000 in
theorem gX7_copy_X7_isSheet : GoodIn wsX7_copy (va_wsS RX7 54 yX7_isSheet wsX7_isSheet) := goodIn_app (goodIn_of _ (by decide +kernel)) ggX7_copy_X7_isSheet
set_option maxRecDepth 20000 in
theorem ggX7_copy_X7_failed : GoodIn wsX7_copy wsX7_failed := goodIn_r _ [20, 1, 27, 28, 29, 30, 31, 32, 33] (by decide +kernel) (by decide +kernel)
set_option maxRecDepth 20000 in
theorem gX7_copy_X7_failed : GoodIn wsX7_copy (wsV RX7 69 RX7 yX7_failed wsX7_failed) := goodIn_app (goodIn_of _ (by decide +kernel)) ggX7_copy_X7_failed
set_option maxRecDepth 20000 in
theorem ggX7_copy_X5_reaches : GoodIn wsX7_copy wsX5_reaches := goodIn_r _ [25, 26, 34, 35, 36, 37] (by decide +kernel) (by decide +kernel)
set_option maxRecDepth 20000 in
theorem gX7_copy_X5_reaches : GoodIn wsX7_copy (wsV RX7 65 RX5 yX5_reaches wsX5_reaches) := goodIn_app (goodIn_of _ (by decide +kernel)) ggX7_copy_X5_reaches
theorem dX7_copy_0 : decode cX7_copy 0 = .ok (.aload_n 0, 1) := by decide +kernel
theorem dX7_copy_1 : decode cX7_copy 1 = .ok (.iconst 0, 1) := by decide +kernel
theorem dX7_copy_2 : decode cX7_copy 2 = .ok (.putfield 50, 3) := by decide +kernel
theorem dX7_copy_5 : decode cX7_copy 5 = .ok (.iload_n 1, 1) := by decide +kernel
theorem dX7_copy_6 : decode cX7_copy 6 = .ok (.invokestatic 54, 3) := by decide +kernel
theorem dX7_copy_9 : decode cX7_copy 9 = .ok (.ifCond .eq 10, 3) := by decide +kernel
theorem dX7_copy_12 : decode cX7_copy 12 = .ok (.iload_n 3, 1) := by decide +kernel
theorem dX7_copy_13 : decode cX7_copy 13 = .ok (.invokestatic 54, 3) := by decide +kernel
theorem dX7_copy_16 : decode cX7_copy 16 = .ok (.ifCond .ne 5, 3) := by decide +kernel
theorem dX7_copy_19 : decode cX7_copy 19 = .ok (.iconst (-1), 1) := by decide +kernel
theorem dX7_copy_20 : decode cX7_copy 20 = .ok (.ireturn, 1) := by decide +kernel
theorem dX7_copy_21 : decode cX7_copy 21 = .ok (.aload_n 0, 1) := by decide +kernel
theorem dX7_copy_22 : decode cX7_copy 22 = .ok (.getfield 13, 3) := by decide +kernel
theorem dX7_copy_25 : decode cX7_copy 25 = .ok (.iload_n 1, 1) := by decide +kernel
theorem dX7_copy_26 : decode cX7_copy 26 = .ok (.aaload, 1) := by decide +kernel
theorem dX7_copy_27 : decode cX7_copy 27 = .ok (.astore 6, 2) := by decide +kernel
theorem dX7_copy_29 : decode cX7_copy 29 = .ok (.aload_n 0, 1) := by decide +kernel
theorem dX7_copy_30 : decode cX7_copy 30 = .ok (.getfield 13, 3) := by decide +kernel
theorem dX7_copy_33 : decode cX7_copy 33 = .ok (.iload_n 3, 1) := by decide +kernel
theorem dX7_copy_34 : decode cX7_copy 34 = .ok (.aaload, 1) := by decide +kernel
theorem dX7_copy_35 : decode cX7_copy 35 = .ok (.astore 7, 2) := by decide +kernel
theorem dX7_copy_37 : decode cX7_copy 37 = .ok (.aload 6, 2) := by decide +kernel
theorem dX7_copy_39 : decode cX7_copy 39 = .ok (.getfield 251, 3) := by decide +kernel
theorem dX7_copy_42 : decode cX7_copy 42 = .ok (.ifCond .eq 11, 3) := by decide +kernel
theorem dX7_copy_45 : decode cX7_copy 45 = .ok (.aload 7, 2) := by decide +kernel
theorem dX7_copy_47 : decode cX7_copy 47 = .ok (.getfield 251, 3) := by decide +kernel
theorem dX7_copy_50 : decode cX7_copy 50 = .ok (.ifCond .ne 9, 3) := by decide +kernel
theorem dX7_copy_53 : decode cX7_copy 53 = .ok (.aload_n 0, 1) := by decide +kernel
theorem dX7_copy_54 : decode cX7_copy 54 = .ok (.iconst 1, 1) := by decide +kernel
theorem dX7_copy_55 : decode cX7_copy 55 = .ok (.invokevirtual 69, 3) := by decide +kernel
theorem dX7_copy_58 : decode cX7_copy 58 = .ok (.ireturn, 1) := by decide +kernel
theorem dX7_copy_59 : decode cX7_copy 59 = .ok (.aload 6, 2) := by decide +kernel
theorem dX7_copy_61 : decode cX7_copy 61 = .ok (.getfield 260, 3) := by decide +kernel
theorem dX7_copy_64 : decode cX7_copy 64 = .ok (.aload 7, 2) := by decide +kernel
theorem dX7_copy_66 : decode cX7_copy 66 = .ok (.getfield 260, 3) := by decide +kernel
theorem dX7_copy_69 : decode cX7_copy 69 = .ok (.if_icmp .eq 9, 3) := by decide +kernel
theorem dX7_copy_72 : decode cX7_copy 72 = .ok (.aload_n 0, 1) := by decide +kernel
theorem dX7_copy_73 : decode cX7_copy 73 = .ok (.iconst 2, 1) := by decide +kernel
theorem dX7_copy_74 : decode cX7_copy 74 = .ok (.invokevirtual 69, 3) := by decide +kernel
theorem dX7_copy_77 : decode cX7_copy 77 = .ok (.ireturn, 1) := by decide +kernel
theorem dX7_copy_78 : decode cX7_copy 78 = .ok (.aload 6, 2) := by decide +kernel
theorem dX7_copy_80 : decode cX7_copy 80 = .ok (.iload_n 2, 1) := by decide +kernel
theorem dX7_copy_81 : decode cX7_copy 81 = .ok (.iload 5, 2) := by decide +kernel
theorem dX7_copy_83 : decode cX7_copy 83 = .ok (.invokevirtual 65, 3) := by decide +kernel
theorem dX7_copy_86 : decode cX7_copy 86 = .ok (.ifCond .eq 15, 3) := by decide +kernel
theorem dX7_copy_89 : decode cX7_copy 89 = .ok (.aload 7, 2) := by decide +kernel
theorem dX7_copy_91 : decode cX7_copy 91 = .ok (.iload 4, 2) := by decide +kernel
theorem dX7_copy_93 : decode cX7_copy 93 = .ok (.iload 5, 2) := by decide +kernel
theorem dX7_copy_95 : decode cX7_copy 95 = .ok (.invokevirtual 65, 3) := by decide +kernel
theorem dX7_copy_98 : decode cX7_copy 98 = .ok (.ifCond .ne 9, 3) := by decide +kernel
theorem dX7_copy_101 : decode cX7_copy 101 = .ok (.aload_n 0, 1) := by decide +kernel
theorem dX7_copy_102 : decode cX7_copy 102 = .ok (.iconst 3, 1) := by decide +kernel
theorem dX7_copy_103 : decode cX7_copy 103 = .ok (.invokevirtual 69, 3) := by decide +kernel
theorem dX7_copy_106 : decode cX7_copy 106 = .ok (.ireturn, 1) := by decide +kernel
theorem dX7_copy_107 : decode cX7_copy 107 = .ok (.aload 6, 2) := by decide +kernel
theorem dX7_copy_109 : decode cX7_copy 109 = .ok (.getfield 254, 3) := by decide +kernel
theorem dX7_copy_112 : decode cX7_copy 112 = .ok (.iload_n 2, 1) := by decide +kernel
theorem dX7_copy_113 : decode cX7_copy 113 = .ok (.aload 7, 2) := by decide +kernel
theorem dX7_copy_115 : decode cX7_copy 115 = .ok (.getfield 254, 3) := by decide +kernel
theorem dX7_copy_118 : decode cX7_copy 118 = .ok (.iload 4, 2) := by decide +kernel
theorem dX7_copy_120 : decode cX7_copy 120 = .ok (.iload 5, 2) := by decide +kernel
theorem dX7_copy_122 : decode cX7_copy 122 = .ok (.invokestatic 263, 3) := by decide +kernel
theorem dX7_copy_125 : decode cX7_copy 125 = .ok (.iload 5, 2) := by decide +kernel
theorem dX7_copy_127 : decode cX7_copy 127 = .ok (.ireturn, 1) := by decide +kernel
set_option maxRecDepth 20000 in
theorem ggX7_tell_X6_hasCoat : GoodIn wsX7_tell wsX6_hasCoat := goodIn_r _ [8, 9, 36, 37, 38, 39, 40, 41, 42, 43, 44, 45, 46] (by decide +kernel) (by decide +kernel)
set_option maxRecDepth 20000 in
theorem gX7_tell_X6_hasCoat : GoodIn wsX7_tell (wsV RX7 143 RX6 yX6_hasCoat wsX6_hasCoat) := goodIn_app (goodIn_of _ (by decide +kernel)) ggX7_tell_X6_hasCoat
set_option maxRecDepth 20000 in
theorem ggX7_tell_X7_tellFast : GoodIn wsX7_tell wsX7_tellFast := goodIn_r _ [14, 15, 16, 17, 13, 18, 19, 20, 21, 22, 23, 24, 25, 26, 27, 28, 29, 30, 31, 32, 33, 34, 35, 47, 48] (by decide +kernel) (by decide +kernel)
set_option maxRecDepth 20000 in
theorem gX7_tell_X7_tellFast : GoodIn wsX7_tell (wsV RX7 269 RX7 yX7_tellFast wsX7_tellFast) := goodIn_app (goodIn_of _ (by decide +kernel)) ggX7_tell_X7_tellFast
set_option maxRecDepth 20000 in
theorem ggX7_tell_X7_tellShiny : GoodIn wsX7_tell wsX7_tellShiny := goodIn_r _ [23, 15, 16, 17, 13, 18, 19, 24, 25, 26, 27, 28, 29, 30, 31, 32, 33, 34, 35, 47, 48] (by decide +kernel) (by decide +kernel)
set_option maxRecDepth 20000 in
theorem gX7_tell_X7_tellShiny : GoodIn wsX7_tell (wsV RX7 273 RX7 yX7_tellShiny wsX7_tellShiny) := goodIn_app (goodIn_of _ (by decide +kernel)) ggX7_tell_X7_tellShiny
set_option maxRecDepth 20000 in
theorem ggX7_tell_X7_tellPlain : GoodIn wsX7_tell wsX7_tellPlain := goodIn_r _ [27, 28, 15, 16, 17, 13, 18, 19, 47, 48, 29, 30, 31, 32, 33, 34, 35] (by decide +kernel) (by decide +kernel)
set_option maxRecDepth 20000 in
theorem gX7_tell_X7_tellPlain : GoodIn wsX7_tell (wsV RX7 276 RX7 yX7_tellPlain wsX7_tellPlain) := goodIn_app (goodIn_of _ (by decide +kernel)) ggX7_tell_X7_tellPlain
theorem dX7_tell_0 : decode cX7_tell 0 = .ok (.aload_n 0, 1) := by decide +kernel
theorem dX7_tell_1 : decode cX7_tell 1 = .ok (.getfield 20, 3) := by decide +kernel
theorem dX7_tell_4 : decode cX7_tell 4 = .ok (.iload_n 1, 1) := by decide +kernel
theorem dX7_tell_5 : decode cX7_tell 5 = .ok (.invokevirtual 143, 3) := by decide +kernel
theorem dX7_tell_8 : decode cX7_tell 8 = .ok (.ifCond .ne 5, 3) := by decide +kernel
theorem dX7_tell_11 : decode cX7_tell 11 = .ok (.iconst (-1), 1) := by decide +kernel
theorem dX7_tell_12 : decode cX7_tell 12 = .ok (.ireturn, 1) := by decide +kernel
theorem dX7_tell_13 : decode cX7_tell 13 = .ok (.aload_n 0, 1) := by decide +kernel
theorem dX7_tell_14 : decode cX7_tell 14 = .ok (.getfield 20, 3) := by decide +kernel
theorem dX7_tell_17 : decode cX7_tell 17 = .ok (.getfield 146, 3) := by decide +kernel
theorem dX7_tell_20 : decode cX7_tell 20 = .ok (.iload_n 1, 1) := by decide +kernel
theorem dX7_tell_21 : decode cX7_tell 21 = .ok (.aaload, 1) := by decide +kernel
theorem dX7_tell_22 : decode cX7_tell 22 = .ok (.astore_n 2, 1) := by decide +kernel
theorem dX7_tell_23 : decode cX7_tell 23 = .ok (.aload_n 2, 1) := by decide +kernel
theorem dX7_tell_24 : decode cX7_tell 24 = .ok (.getfield 150, 3) := by decide +kernel
theorem dX7_tell_27 : decode cX7_tell 27 = .ok (.lookupswitch 37 #[(1, 31), (2, 25)], 25) := by decide +kernel
theorem dX7_tell_52 : decode cX7_tell 52 = .ok (.aload_n 0, 1) := by decide +kernel
theorem dX7_tell_53 : decode cX7_tell 53 = .ok (.aload_n 2, 1) := by decide +kernel
theorem dX7_tell_54 : decode cX7_tell 54 = .ok (.invokevirtual 269, 3) := by decide +kernel
theorem dX7_tell_57 : decode cX7_tell 57 = .ok (.ireturn, 1) := by decide +kernel
theorem dX7_tell_58 : decode cX7_tell 58 = .ok (.aload_n 0, 1) := by decide +kernel
theorem dX7_tell_59 : decode cX7_tell 59 = .ok (.aload_n 2, 1) := by decide +kernel
theorem dX7_tell_60 : decode cX7_tell 60 = .ok (.invokevirtual 273, 3) := by decide +kernel
theorem dX7_tell_63 : decode cX7_tell 63 = .ok (.ireturn, 1) := by decide +kernel
theorem dX7_tell_64 : decode cX7_tell 64 = .ok (.aload_n 0, 1) := by decide +kernel
theorem dX7_tell_65 : decode cX7_tell 65 = .ok (.aload_n 2, 1) := by decide +kernel
theorem dX7_tell_66 : decode cX7_tell 66 = .ok (.invokevirtual 276, 3) := by decide +kernel
theorem dX7_tell_69 : decode cX7_tell 69 = .ok (.ireturn, 1) := by decide +kernel
set_option maxRecDepth 20000 in
theorem ggX7_name_X6_hasCoat : GoodIn wsX7_name wsX6_hasCoat := goodIn_r _ [8, 9, 23, 24, 25, 26, 27, 28, 29, 30, 31, 32, 33] (by decide +kernel) (by decide +kernel)
set_option maxRecDepth 20000 in
theorem gX7_name_X6_hasCoat : GoodIn wsX7_name (wsV RX7 143 RX6 yX6_hasCoat wsX6_hasCoat) := goodIn_app (goodIn_of _ (by decide +kernel)) ggX7_name_X6_hasCoat
set_option maxRecDepth 20000 in
theorem ggX7_name_X7_mark : GoodIn wsX7_name wsX7_mark := goodIn_r _ [14, 15, 16, 17, 18, 19, 20, 21, 22] (by decide +kernel) (by decide +kernel)
set_option maxRecDepth 20000 in
theorem gX7_name_X7_mark : GoodIn wsX7_name (wsV RX7 279 RX7 yX7_mark wsX7_mark) := goodIn_app (goodIn_of _ (by decide +kernel)) ggX7_name_X7_mark
theorem dX7_name_0 : decode cX7_name 0 = .ok (.aload_n 0, 1) := by decide +kernel
theorem dX7_name_1 : decode cX7_name 1 = .ok (.getfield 20, 3) := by decide +kernel
theorem dX7_name_4 : decode cX7_name 4 = .ok (.iload_n 1, 1) := by decide +kernel
theorem dX7_name_5 : decode cX7_name 5 = .ok (.invokevirtual 143, 3) := by decide +kernel
theorem dX7_name_8 : decode cX7_name 8 = .ok (.ifCond .ne 5, 3) := by decide +kernel
theorem dX7_name_11 : decode cX7_name 11 = .ok (.iconst (-1), 1) := by decide +kernel
theorem dX7_name_12 : decode cX7_name 12 = .ok (.ireturn, 1) := by decide +kernel
theorem dX7_name_13 : decode cX7_name 13 = .ok (.aload_n 0, 1) := by decide +kernel
theorem dX7_name_14 : decode cX7_name 14 = .ok (.getfield 20, 3) := by decide +kernel
theorem dX7_name_17 : decode cX7_name 17 = .ok (.getfield 146, 3) := by decide +kernel
theorem dX7_name_20 : decode cX7_name 20 = .ok (.iload_n 1, 1) := by decide +kernel
theorem dX7_name_21 : decode cX7_name 21 = .ok (.aaload, 1) := by decide +kernel
theorem dX7_name_22 : decode cX7_name 22 = .ok (.getfield 150, 3) := by decide +kernel
theorem dX7_name_25 : decode cX7_name 25 = .ok (.iconst 2, 1) := by decide +kernel
theorem dX7_name_26 : decode cX7_name 26 = .ok (.if_icmp .ne 11, 3) := by decide +kernel
theorem dX7_name_29 : decode cX7_name 29 = .ok (.aload_n 0, 1) := by decide +kernel
theorem dX7_name_30 : decode cX7_name 30 = .ok (.iconst 5, 1) := by decide +kernel
theorem dX7_name_31 : decode cX7_name 31 = .ok (.invokevirtual 279, 3) := by decide +kernel
theorem dX7_name_34 : decode cX7_name 34 = .ok (.bipush 90, 2) := by decide +kernel
theorem dX7_name_36 : decode cX7_name 36 = .ok (.ireturn, 1) := by decide +kernel
theorem dX7_name_37 : decode cX7_name 37 = .ok (.aload_n 0, 1) := by decide +kernel
theorem dX7_name_38 : decode cX7_name 38 = .ok (.iconst 4, 1) := by decide +kernel
theorem dX7_name_39 : decode cX7_name 39 = .ok (.invokevirtual 279, 3) := by decide +kernel
theorem dX7_name_42 : decode cX7_name 42 = .ok (.iload_n 1, 1) := by decide +kernel
theorem dX7_name_43 : decode cX7_name 43 = .ok (.ireturn, 1) := by decide +kernel
set_option maxRecDepth 20000 in
theorem ggX7_as_X6_hasCoat : GoodIn wsX7_as wsX6_hasCoat := goodIn_r _ [9, 10, 29, 30, 31, 32, 33, 34, 35, 36, 37, 38, 39] (by decide +kernel) (by decide +kernel)
set_option maxRecDepth 20000 in
theorem gX7_as_X6_hasCoat : GoodIn wsX7_as (wsV RX7 143 RX6 yX6_hasCoat wsX6_hasCoat) := goodIn_app (goodIn_of _ (by decide +kernel)) ggX7_as_X6_hasCoat
set_option maxRecDepth 20000 in
theorem ggX7_as_X7_isKind : GoodIn wsX7_as wsX7_isKind := goodIn_r _ [14, 15, 16, 13, 17] (by decide +kernel) (by decide +kernel)
set_option maxRecDepth 20000 in
theorem gX7_as_X7_isKind : GoodIn wsX7_as (va_wsS RX7 129 yX7_isKind wsX7_isKind) := goodIn_app (goodIn_of _ (by decide +kernel)) ggX7_as_X7_isKind
set_option maxRecDepth 20000 in
theorem ggX7_as_X7_failed : GoodIn wsX7_as wsX7_failed := goodIn_r _ [21, 1, 22, 23, 24, 25, 26, 27, 28] (by decide +kernel) (by decide +kernel)
set_option maxRecDepth 20000 in
theorem gX7_as_X7_failed : GoodIn wsX7_as (wsV RX7 69 RX7 yX7_failed wsX7_failed) := goodIn_app (goodIn_of _ (by decide +kernel)) ggX7_as_X7_failed
theorem dX7_as_0 : decode cX7_as 0 = .ok (.aload_n 0, 1) := by decide +kernel
theorem dX7_as_1 : decode cX7_as 1 = .ok (.iconst 0, 1) := by decide +kernel
theorem dX7_as_2 : decode cX7_as 2 = .ok (.putfield 50, 3) := by decide +kernel
theorem dX7_as_5 : decode cX7_as 5 = .ok (.aload_n 0, 1) := by decide +kernel
theorem dX7_as_6 : decode cX7_as 6 = .ok (.getfield 20, 3) := by decide +kernel
theorem dX7_as_9 : decode cX7_as 9 = .ok (.iload_n 1, 1) := by decide +kernel
theorem dX7_as_10 : decode cX7_as 10 = .ok (.invokevirtual 143, 3) := by decide +kernel
theorem dX7_as_13 : decode cX7_as 13 = .ok (.ifCond .ne 5, 3) := by decide +kernel
theorem dX7_as_16 : decode cX7_as 16 = .ok (.iconst (-1), 1) := by decide +kernel
theorem dX7_as_17 : decode cX7_as 17 = .ok (.ireturn, 1) := by decide +kernel
theorem dX7_as_18 : decode cX7_as 18 = .ok (.iload_n 2, 1) := by decide +kernel
theorem dX7_as_19 : decode cX7_as 19 = .ok (.invokestatic 129, 3) := by decide +kernel
theorem dX7_as_22 : decode cX7_as 22 = .ok (.ifCond .ne 6, 3) := by decide +kernel
theorem dX7_as_25 : decode cX7_as 25 = .ok (.bipush (-2), 2) := by decide +kernel
theorem dX7_as_27 : decode cX7_as 27 = .ok (.ireturn, 1) := by decide +kernel
theorem dX7_as_28 : decode cX7_as 28 = .ok (.aload_n 0, 1) := by decide +kernel
theorem dX7_as_29 : decode cX7_as 29 = .ok (.getfield 20, 3) := by decide +kernel
theorem dX7_as_32 : decode cX7_as 32 = .ok (.getfield 146, 3) := by decide +kernel
theorem dX7_as_35 : decode cX7_as 35 = .ok (.iload_n 1, 1) := by decide +kernel
theorem dX7_as_36 : decode cX7_as 36 = .ok (.aaload, 1) := by decide +kernel
theorem dX7_as_37 : decode cX7_as 37 = .ok (.getfield 150, 3) := by decide +kernel
theorem dX7_as_40 : decode cX7_as 40 = .ok (.iload_n 2, 1) := by decide +kernel
theorem dX7_as_41 : decode cX7_as 41 = .ok (.if_icmp .ge 11, 3) := by decide +kernel
theorem dX7_as_44 : decode cX7_as 44 = .ok (.aload_n 0, 1) := by decide +kernel
theorem dX7_as_45 : decode cX7_as 45 = .ok (.iconst 2, 1) := by decide +kernel
theorem dX7_as_46 : decode cX7_as 46 = .ok (.invokevirtual 69, 3) := by decide +kernel
theorem dX7_as_49 : decode cX7_as 49 = .ok (.goto 4, 3) := by decide +kernel
theorem dX7_as_52 : decode cX7_as 52 = .ok (.iconst 1, 1) := by decide +kernel
theorem dX7_as_53 : decode cX7_as 53 = .ok (.ireturn, 1) := by decide +kernel
theorem dX7_trace_0 : decode cX7_trace 0 = .ok (.aload_n 0, 1) := by decide +kernel
theorem dX7_trace_1 : decode cX7_trace 1 = .ok (.getfield 282, 3) := by decide +kernel
theorem dX7_trace_4 : decode cX7_trace 4 = .ok (.ireturn, 1) := by decide +kernel
theorem dX7_fault_0 : decode cX7_fault 0 = .ok (.aload_n 0, 1) := by decide +kernel
theorem dX7_fault_1 : decode cX7_fault 1 = .ok (.getfield 50, 3) := by decide +kernel
theorem dX7_fault_4 : decode cX7_fault 4 = .ok (.ireturn, 1) := by decide +kernel
theorem dX7_many_0 : decode cX7_many 0 = .ok (.iload_n 1, 1) := by decide +kernel
theorem dX7_many_1 : decode cX7_many 1 = .ok (.tableswitch 99 0 6 #[43, 51, 59, 67, 75, 83, 91], 43) := by decide +kernel
theorem dX7_many_44 : decode cX7_many 44 = .ok (.aload_n 0, 1) := by decide +kernel
theorem dX7_many_45 : decode cX7_many 45 = .ok (.getfield 20, 3) := by decide +kernel
theorem dX7_many_48 : decode cX7_many 48 = .ok (.getfield 80, 3) := by decide +kernel
theorem dX7_many_51 : decode cX7_many 51 = .ok (.ireturn, 1) := by decide +kernel
theorem dX7_many_52 : decode cX7_many 52 = .ok (.aload_n 0, 1) := by decide +kernel
theorem dX7_many_53 : decode cX7_many 53 = .ok (.getfield 20, 3) := by decide +kernel
theorem dX7_many_56 : decode cX7_many 56 = .ok (.getfield 285, 3) := by decide +kernel
theorem dX7_many_59 : decode cX7_many 59 = .ok (.ireturn, 1) := by decide +kernel
theorem dX7_many_60 : decode cX7_many 60 = .ok (.aload_n 0, 1) := by decide +kernel
theorem dX7_many_61 : decode cX7_many 61 = .ok (.getfield 20, 3) := by decide +kernel
theorem dX7_many_64 : decode cX7_many 64 = .ok (.getfield 136, 3) := by decide +kernel
theorem dX7_many_67 : decode cX7_many 67 = .ok (.ireturn, 1) := by decide +kernel
theorem dX7_many_68 : decode cX7_many 68 = .ok (.aload_n 0, 1) := by decide +kernel
theorem dX7_many_69 : decode cX7_many 69 = .ok (.getfield 20, 3) := by decide +kernel
theorem dX7_many_72 : decode cX7_many 72 = .ok (.getfield 166, 3) := by decide +kernel
theorem dX7_many_75 : decode cX7_many 75 = .ok (.ireturn, 1) := by decide +kernel
theorem dX7_many_76 : decode cX7_many 76 = .ok (.aload_n 0, 1) := by decide +kernel
theorem dX7_many_77 : decode cX7_many 77 = .ok (.getfield 20, 3) := by decide +kernel
theorem dX7_many_80 : decode cX7_many 80 = .ok (.getfield 122, 3) := by decide +kernel
theorem dX7_many_83 : decode cX7_many 83 = .ok (.ireturn, 1) := by decide +kernel
theorem dX7_many_84 : decode cX7_many 84 = .ok (.aload_n 0, 1) := by decide +kernel
theorem dX7_many_85 : decode cX7_many 85 = .ok (.getfield 20, 3) := by decide +kernel
theorem dX7_many_88 : decode cX7_many 88 = .ok (.getfield 116, 3) := by decide +kernel
theorem dX7_many_91 : decode cX7_many 91 = .ok (.ireturn, 1) := by decide +kernel
theorem dX7_many_92 : decode cX7_many 92 = .ok (.aload_n 0, 1) := by decide +kernel
theorem dX7_many_93 : decode cX7_many 93 = .ok (.getfield 20, 3) := by decide +kernel
theorem dX7_many_96 : decode cX7_many 96 = .ok (.getfield 119, 3) := by decide +kernel
theorem dX7_many_99 : decode cX7_many 99 = .ok (.ireturn, 1) := by decide +kernel
theorem dX7_many_100 : decode cX7_many 100 = .ok (.bipush (-2), 2) := by decide +kernel
theorem dX7_many_102 : decode cX7_many 102 = .ok (.ireturn, 1) := by decide +kernel
theorem dX7_isWithin_0 : decode cX7_isWithin 0 = .ok (.iload_n 0, 1) := by decide +kernel
theorem dX7_isWithin_1 : decode cX7_isWithin 1 = .ok (.iload_n 1, 1) := by decide +kernel
theorem dX7_isWithin_2 : decode cX7_isWithin 2 = .ok (.if_icmp .lt 12, 3) := by decide +kernel
theorem dX7_isWithin_5 : decode cX7_isWithin 5 = .ok (.iload_n 0, 1) := by decide +kernel
theorem dX7_isWithin_6 : decode cX7_isWithin 6 = .ok (.iload_n 2, 1) := by decide +kernel
theorem dX7_isWithin_7 : decode cX7_isWithin 7 = .ok (.if_icmp .gt 7, 3) := by decide +kernel
theorem dX7_isWithin_10 : decode cX7_isWithin 10 = .ok (.iconst 1, 1) := by decide +kernel
theorem dX7_isWithin_11 : decode cX7_isWithin 11 = .ok (.goto 4, 3) := by decide +kernel
theorem dX7_isWithin_14 : decode cX7_isWithin 14 = .ok (.iconst 0, 1) := by decide +kernel
theorem dX7_isWithin_15 : decode cX7_isWithin 15 = .ok (.ireturn, 1) := by decide +kernel
set_option maxRecDepth 20000 in
theorem ggX7_areWithin_X7_isWithin : GoodIn wsX7_areWithin wsX7_isWithin := goodIn_r _ [4] (by decide +kernel) (by decide +kernel)
set_option maxRecDepth 20000 in
theorem gX7_areWithin_X7_isWithin : GoodIn wsX7_areWithin (va_wsS RX7 108 yX7_isWithin wsX7_isWithin) := goodIn_app (goodIn_of _ (by decide +kernel)) ggX7_areWithin_X7_isWithin
theorem dX7_areWithin_0 : decode cX7_areWithin 0 = .ok (.iload_n 0, 1) := by decide +kernel
theorem dX7_areWithin_1 : decode cX7_areWithin 1 = .ok (.iconst 0, 1) := by decide +kernel
theorem dX7_areWithin_2 : decode cX7_areWithin 2 = .ok (.iload_n 3, 1) := by decide +kernel
theorem dX7_areWithin_3 : decode cX7_areWithin 3 = .ok (.invokestatic 108, 3) := by decide +kernel
theorem dX7_areWithin_6 : decode cX7_areWithin 6 = .ok (.ifCond .eq 25, 3) := by decide +kernel
theorem dX7_areWithin_9 : decode cX7_areWithin 9 = .ok (.iload_n 1, 1) := by decide +kernel
theorem dX7_areWithin_10 : decode cX7_areWithin 10 = .ok (.iconst 0, 1) := by decide +kernel
theorem dX7_areWithin_11 : decode cX7_areWithin 11 = .ok (.iload_n 3, 1) := by decide +kernel
theorem dX7_areWithin_12 : decode cX7_areWithin 12 = .ok (.invokestatic 108, 3) := by decide +kernel
theorem dX7_areWithin_15 : decode cX7_areWithin 15 = .ok (.ifCond .eq 16, 3) := by decide +kernel
theorem dX7_areWithin_18 : decode cX7_areWithin 18 = .ok (.iload_n 2, 1) := by decide +kernel
theorem dX7_areWithin_19 : decode cX7_areWithin 19 = .ok (.iconst 0, 1) := by decide +kernel
theorem dX7_areWithin_20 : decode cX7_areWithin 20 = .ok (.iload_n 3, 1) := by decide +kernel
theorem dX7_areWithin_21 : decode cX7_areWithin 21 = .ok (.invokestatic 108, 3) := by decide +kernel
theorem dX7_areWithin_24 : decode cX7_areWithin 24 = .ok (.ifCond .eq 7, 3) := by decide +kernel
theorem dX7_areWithin_27 : decode cX7_areWithin 27 = .ok (.iconst 1, 1) := by decide +kernel
theorem dX7_areWithin_28 : decode cX7_areWithin 28 = .ok (.goto 4, 3) := by decide +kernel
theorem dX7_areWithin_31 : decode cX7_areWithin 31 = .ok (.iconst 0, 1) := by decide +kernel
theorem dX7_areWithin_32 : decode cX7_areWithin 32 = .ok (.ireturn, 1) := by decide +kernel
set_option maxRecDepth 20000 in
theorem ggX7_isSheet_X7_isWithin : GoodIn wsX7_isSheet wsX7_isWithin := goodIn_r _ [4] (by decide +kernel) (by decide +kernel)
set_option maxRecDepth 20000 in
theorem gX7_isSheet_X7_isWithin : GoodIn wsX7_isSheet (va_wsS RX7 108 yX7_isWithin wsX7_isWithin) := goodIn_app (goodIn_of _ (by decide +kernel)) ggX7_isSheet_X7_isWithin
theorem dX7_isSheet_0 : decode cX7_isSheet 0 = .ok (.iload_n 0, 1) := by decide +kernel
theorem dX7_isSheet_1 : decode cX7_isSheet 1 = .ok (.iconst 0, 1) := by decide +kernel
theorem dX7_isSheet_2 : decode cX7_isSheet 2 = .ok (.iconst 3, 1) := by decide +kernel
theorem dX7_isSheet_3 : decode cX7_isSheet 3 = .ok (.invokestatic 108, 3) := by decide +kernel
theorem dX7_isSheet_6 : decode cX7_isSheet 6 = .ok (.ireturn, 1) := by decide +kernel
set_option maxRecDepth 20000 in
theorem ggX7_isSort_X7_isWithin : GoodIn wsX7_isSort wsX7_isWithin := goodIn_r _ [4] (by decide +kernel) (by decide +kernel)
set_option maxRecDepth 20000 in
theorem gX7_isSort_X7_isWithin : GoodIn wsX7_isSort (va_wsS RX7 108 yX7_isWithin wsX7_isWithin) := goodIn_app (goodIn_of _ (by decide +kernel)) ggX7_isSort_X7_isWithin
theorem dX7_isSort_0 : decode cX7_isSort 0 = .ok (.iload_n 0, 1) := by decide +kernel
theorem dX7_isSort_1 : decode cX7_isSort 1 = .ok (.iconst 0, 1) := by decide +kernel
theorem dX7_isSort_2 : decode cX7_isSort 2 = .ok (.iconst 2, 1) := by decide +kernel
theorem dX7_isSort_3 : decode cX7_isSort 3 = .ok (.invokestatic 108, 3) := by decide +kernel
theorem dX7_isSort_6 : decode cX7_isSort 6 = .ok (.ireturn, 1) := by decide +kernel
set_option maxRecDepth 20000 in
theorem ggX7_isKind_X7_isWithin : GoodIn wsX7_isKind wsX7_isWithin := goodIn_r _ [4] (by decide +kernel) (by decide +kernel)
set_option maxRecDepth 20000 in
theorem gX7_isKind_X7_isWithin : GoodIn wsX7_isKind (va_wsS RX7 108 yX7_isWithin wsX7_isWithin) := goodIn_app (goodIn_of _ (by decide +kernel)) ggX7_isKind_X7_isWithin
theorem dX7_isKind_0 : decode cX7_isKind 0 = .ok (.iload_n 0, 1) := by decide +kernel
theorem dX7_isKind_1 : decode cX7_isKind 1 = .ok (.iconst 0, 1) := by decide +kernel
theorem dX7_isKind_2 : decode cX7_isKind 2 = .ok (.iconst 2, 1) := by decide +kernel
theorem dX7_isKind_3 : decode cX7_isKind 3 = .ok (.invokestatic 108, 3) := by decide +kernel
theorem dX7_isKind_6 : decode cX7_isKind 6 = .ok (.ireturn, 1) := by decide +kernel
theorem dX7_failed_0 : decode cX7_failed 0 = .ok (.aload_n 0, 1) := by decide +kernel
theorem dX7_failed_1 : decode cX7_failed 1 = .ok (.iload_n 1, 1) := by decide +kernel
theorem dX7_failed_2 : decode cX7_failed 2 = .ok (.putfield 50, 3) := by decide +kernel
theorem dX7_failed_5 : decode cX7_failed 5 = .ok (.bipush (-10), 2) := by decide +kernel
theorem dX7_failed_7 : decode cX7_failed 7 = .ok (.iload_n 1, 1) := by decide +kernel
theorem dX7_failed_8 : decode cX7_failed 8 = .ok (.isub, 1) := by decide +kernel
theorem dX7_failed_9 : decode cX7_failed 9 = .ok (.ireturn, 1) := by decide +kernel
set_option maxRecDepth 20000 in
theorem ggX7_isAsTold_X1_comesBack : GoodIn wsX7_isAsTold wsX1_comesBack := goodIn_r _ [10, 11, 12, 13, 14, 15, 16, 17, 18, 19, 9, 20, 43, 44] (by decide +kernel) (by decide +kernel)
set_option maxRecDepth 20000 in
theorem gX7_isAsTold_X1_comesBack : GoodIn wsX7_isAsTold (wsV RX7 162 RX1 yX1_comesBack wsX1_comesBack) := goodIn_app (goodIn_of _ (by decide +kernel)) ggX7_isAsTold_X1_comesBack
theorem dX7_isAsTold_0 : decode cX7_isAsTold 0 = .ok (.aload_n 0, 1) := by decide +kernel
theorem dX7_isAsTold_1 : decode cX7_isAsTold 1 = .ok (.getfield 13, 3) := by decide +kernel
theorem dX7_isAsTold_4 : decode cX7_isAsTold 4 = .ok (.iload 4, 2) := by decide +kernel
theorem dX7_isAsTold_6 : decode cX7_isAsTold 6 = .ok (.aaload, 1) := by decide +kernel
theorem dX7_isAsTold_7 : decode cX7_isAsTold 7 = .ok (.getfield 254, 3) := by decide +kernel
theorem dX7_isAsTold_10 : decode cX7_isAsTold 10 = .ok (.astore 6, 2) := by decide +kernel
theorem dX7_isAsTold_12 : decode cX7_isAsTold 12 = .ok (.iconst 0, 1) := by decide +kernel
theorem dX7_isAsTold_13 : decode cX7_isAsTold 13 = .ok (.istore 7, 2) := by decide +kernel
theorem dX7_isAsTold_15 : decode cX7_isAsTold 15 = .ok (.iload 7, 2) := by decide +kernel
theorem dX7_isAsTold_17 : decode cX7_isAsTold 17 = .ok (.iconst 3, 1) := by decide +kernel
theorem dX7_isAsTold_18 : decode cX7_isAsTold 18 = .ok (.if_icmp .ge 48, 3) := by decide +kernel
theorem dX7_isAsTold_21 : decode cX7_isAsTold 21 = .ok (.aload_n 0, 1) := by decide +kernel
theorem dX7_isAsTold_22 : decode cX7_isAsTold 22 = .ok (.getfield 20, 3) := by decide +kernel
theorem dX7_isAsTold_25 : decode cX7_isAsTold 25 = .ok (.getfield 146, 3) := by decide +kernel
theorem dX7_isAsTold_28 : decode cX7_isAsTold 28 = .ok (.iload_n 1, 1) := by decide +kernel
theorem dX7_isAsTold_29 : decode cX7_isAsTold 29 = .ok (.aaload, 1) := by decide +kernel
theorem dX7_isAsTold_30 : decode cX7_isAsTold 30 = .ok (.iload 7, 2) := by decide +kernel
theorem dX7_isAsTold_32 : decode cX7_isAsTold 32 = .ok (.iload_n 2, 1) := by decide +kernel
theorem dX7_isAsTold_33 : decode cX7_isAsTold 33 = .ok (.iload_n 3, 1) := by decide +kernel
theorem dX7_isAsTold_34 : decode cX7_isAsTold 34 = .ok (.imul, 1) := by decide +kernel
theorem dX7_isAsTold_35 : decode cX7_isAsTold 35 = .ok (.iload_n 3, 1) := by decide +kernel
theorem dX7_isAsTold_36 : decode cX7_isAsTold 36 = .ok (.aload_n 0, 1) := by decide +kernel
theorem dX7_isAsTold_37 : decode cX7_isAsTold 37 = .ok (.getfield 20, 3) := by decide +kernel
theorem dX7_isAsTold_40 : decode cX7_isAsTold 40 = .ok (.getfield 116, 3) := by decide +kernel
theorem dX7_isAsTold_43 : decode cX7_isAsTold 43 = .ok (.iconst 0, 1) := by decide +kernel
theorem dX7_isAsTold_44 : decode cX7_isAsTold 44 = .ok (.invokevirtual 162, 3) := by decide +kernel
theorem dX7_isAsTold_47 : decode cX7_isAsTold 47 = .ok (.aload 6, 2) := by decide +kernel
theorem dX7_isAsTold_49 : decode cX7_isAsTold 49 = .ok (.iload 5, 2) := by decide +kernel
theorem dX7_isAsTold_51 : decode cX7_isAsTold 51 = .ok (.iload 7, 2) := by decide +kernel
theorem dX7_isAsTold_53 : decode cX7_isAsTold 53 = .ok (.iadd, 1) := by decide +kernel
theorem dX7_isAsTold_54 : decode cX7_isAsTold 54 = .ok (.iaload, 1) := by decide +kernel
theorem dX7_isAsTold_55 : decode cX7_isAsTold 55 = .ok (.if_icmp .eq 5, 3) := by decide +kernel
theorem dX7_isAsTold_58 : decode cX7_isAsTold 58 = .ok (.iconst 0, 1) := by decide +kernel
theorem dX7_isAsTold_59 : decode cX7_isAsTold 59 = .ok (.ireturn, 1) := by decide +kernel
theorem dX7_isAsTold_60 : decode cX7_isAsTold 60 = .ok (.iinc 7 1, 3) := by decide +kernel
theorem dX7_isAsTold_63 : decode cX7_isAsTold 63 = .ok (.goto (-48), 3) := by decide +kernel
theorem dX7_isAsTold_66 : decode cX7_isAsTold 66 = .ok (.iconst 1, 1) := by decide +kernel
theorem dX7_isAsTold_67 : decode cX7_isAsTold 67 = .ok (.ireturn, 1) := by decide +kernel
theorem dX7_mark_0 : decode cX7_mark 0 = .ok (.aload_n 0, 1) := by decide +kernel
theorem dX7_mark_1 : decode cX7_mark 1 = .ok (.bipush 31, 2) := by decide +kernel
theorem dX7_mark_3 : decode cX7_mark 3 = .ok (.aload_n 0, 1) := by decide +kernel
theorem dX7_mark_4 : decode cX7_mark 4 = .ok (.getfield 282, 3) := by decide +kernel
theorem dX7_mark_7 : decode cX7_mark 7 = .ok (.imul, 1) := by decide +kernel
theorem dX7_mark_8 : decode cX7_mark 8 = .ok (.iload_n 1, 1) := by decide +kernel
theorem dX7_mark_9 : decode cX7_mark 9 = .ok (.iadd, 1) := by decide +kernel
theorem dX7_mark_10 : decode cX7_mark 10 = .ok (.putfield 282, 3) := by decide +kernel
theorem dX7_mark_13 : decode cX7_mark 13 = .ok (.return_, 1) := by decide +kernel
set_option maxRecDepth 20000 in
theorem ggX7_tellPlain_X7_mark : GoodIn wsX7_tellPlain wsX7_mark := goodIn_r _ [6, 7, 10, 11, 12, 13, 14, 15, 16] (by decide +kernel) (by decide +kernel)
set_option maxRecDepth 20000 in
theorem gX7_tellPlain_X7_mark : GoodIn wsX7_tellPlain (wsV RX7 279 RX7 yX7_mark wsX7_mark) := goodIn_app (goodIn_of _ (by decide +kernel)) ggX7_tellPlain_X7_mark
theorem dX7_tellPlain_0 : decode cX7_tellPlain 0 = .ok (.aload_n 0, 1) := by decide +kernel
theorem dX7_tellPlain_1 : decode cX7_tellPlain 1 = .ok (.iconst 1, 1) := by decide +kernel
theorem dX7_tellPlain_2 : decode cX7_tellPlain 2 = .ok (.invokevirtual 279, 3) := by decide +kernel
theorem dX7_tellPlain_5 : decode cX7_tellPlain 5 = .ok (.aload_n 1, 1) := by decide +kernel
theorem dX7_tellPlain_6 : decode cX7_tellPlain 6 = .ok (.getfield 155, 3) := by decide +kernel
theorem dX7_tellPlain_9 : decode cX7_tellPlain 9 = .ok (.iconst 0, 1) := by decide +kernel
theorem dX7_tellPlain_10 : decode cX7_tellPlain 10 = .ok (.iaload, 1) := by decide +kernel
theorem dX7_tellPlain_11 : decode cX7_tellPlain 11 = .ok (.ireturn, 1) := by decide +kernel
set_option maxRecDepth 20000 in
theorem ggX7_tellShiny_X7_mark : GoodIn wsX7_tellShiny wsX7_mark := goodIn_r _ [5, 6, 12, 13, 14, 15, 16, 17, 18] (by decide +kernel) (by decide +kernel)
set_option maxRecDepth 20000 in
theorem gX7_tellShiny_X7_mark : GoodIn wsX7_tellShiny (wsV RX7 279 RX7 yX7_mark wsX7_mark) := goodIn_app (goodIn_of _ (by decide +kernel)) ggX7_tellShiny_X7_mark
set_option maxRecDepth 20000 in
theorem ggX7_tellShiny_X7_tellPlain : GoodIn wsX7_tellShiny wsX7_tellPlain := goodIn_r _ [10, 11, 1, 2, 3, 4, 5, 6, 19, 20, 12, 13, 14, 15, 16, 17, 18] (by decide +kernel) (by decide +kernel)
set_option maxRecDepth 20000 in
theorem gX7_tellShiny_X7_tellPlain : GoodIn wsX7_tellShiny (wsV RX7 276 RX7 yX7_tellPlain wsX7_tellPlain) := goodIn_app (goodIn_of _ (by decide +kernel)) ggX7_tellShiny_X7_tellPlain
theorem dX7_tellShiny_0 : decode cX7_tellShiny 0 = .ok (.aload_n 0, 1) := by decide +kernel
theorem dX7_tellShiny_1 : decode cX7_tellShiny 1 = .ok (.iconst 2, 1) := by decide +kernel
theorem dX7_tellShiny_2 : decode cX7_tellShiny 2 = .ok (.invokevirtual 279, 3) := by decide +kernel
theorem dX7_tellShiny_5 : decode cX7_tellShiny 5 = .ok (.aload_n 0, 1) := by decide +kernel
theorem dX7_tellShiny_6 : decode cX7_tellShiny 6 = .ok (.aload_n 1, 1) := by decide +kernel
theorem dX7_tellShiny_7 : decode cX7_tellShiny 7 = .ok (.invokevirtual 276, 3) := by decide +kernel
theorem dX7_tellShiny_10 : decode cX7_tellShiny 10 = .ok (.bipush 100, 2) := by decide +kernel
theorem dX7_tellShiny_12 : decode cX7_tellShiny 12 = .ok (.iadd, 1) := by decide +kernel
theorem dX7_tellShiny_13 : decode cX7_tellShiny 13 = .ok (.ireturn, 1) := by decide +kernel
set_option maxRecDepth 20000 in
theorem ggX7_tellFast_X7_mark : GoodIn wsX7_tellFast wsX7_mark := goodIn_r _ [5, 6, 16, 17, 18, 19, 20, 21, 22] (by decide +kernel) (by decide +kernel)
set_option maxRecDepth 20000 in
theorem gX7_tellFast_X7_mark : GoodIn wsX7_tellFast (wsV RX7 279 RX7 yX7_mark wsX7_mark) := goodIn_app (goodIn_of _ (by decide +kernel)) ggX7_tellFast_X7_mark
set_option maxRecDepth 20000 in
theorem ggX7_tellFast_X7_tellShiny : GoodIn wsX7_tellFast wsX7_tellShiny := goodIn_r _ [10, 1, 2, 3, 4, 5, 6, 11, 12, 13, 14, 15, 16, 17, 18, 19, 20, 21, 22, 23, 24] (by decide +kernel) (by decide +kernel)
set_option maxRecDepth 20000 in
theorem gX7_tellFast_X7_tellShiny : GoodIn wsX7_tellFast (wsV RX7 273 RX7 yX7_tellShiny wsX7_tellShiny) := goodIn_app (goodIn_of _ (by decide +kernel)) ggX7_tellFast_X7_tellShiny
set_option maxRecDepth 20000 in
theorem ggX7_tellFast_X7_tellPlain : GoodIn wsX7_tellFast wsX7_tellPlain := goodIn_r _ [14, 15, 1, 2, 3, 4, 5, 6, 23, 24, 16, 17, 18, 19, 20, 21, 22] (by decide +kernel) (by decide +kernel)
set_option maxRecDepth 20000 in
theorem gX7_tellFast_X7_tellPlain : GoodIn wsX7_tellFast (wsV RX7 276 RX7 yX7_tellPlain wsX7_tellPlain) := goodIn_app (goodIn_of _ (by decide +kernel)) ggX7_tellFast_X7_tellPlain
theorem dX7_tellFast_0 : decode cX7_tellFast 0 = .ok (.aload_n 0, 1) := by decide +kernel
theorem dX7_tellFast_1 : decode cX7_tellFast 1 = .ok (.iconst 3, 1) := by decide +kernel
theorem dX7_tellFast_2 : decode cX7_tellFast 2 = .ok (.invokevirtual 279, 3) := by decide +kernel
theorem dX7_tellFast_5 : decode cX7_tellFast 5 = .ok (.aload_n 0, 1) := by decide +kernel
theorem dX7_tellFast_6 : decode cX7_tellFast 6 = .ok (.aload_n 1, 1) := by decide +kernel
theorem dX7_tellFast_7 : decode cX7_tellFast 7 = .ok (.invokevirtual 273, 3) := by decide +kernel
theorem dX7_tellFast_10 : decode cX7_tellFast 10 = .ok (.istore_n 2, 1) := by decide +kernel
theorem dX7_tellFast_11 : decode cX7_tellFast 11 = .ok (.iload_n 2, 1) := by decide +kernel
theorem dX7_tellFast_12 : decode cX7_tellFast 12 = .ok (.aload_n 0, 1) := by decide +kernel
theorem dX7_tellFast_13 : decode cX7_tellFast 13 = .ok (.aload_n 1, 1) := by decide +kernel
theorem dX7_tellFast_14 : decode cX7_tellFast 14 = .ok (.invokevirtual 276, 3) := by decide +kernel
theorem dX7_tellFast_17 : decode cX7_tellFast 17 = .ok (.iadd, 1) := by decide +kernel
theorem dX7_tellFast_18 : decode cX7_tellFast 18 = .ok (.ireturn, 1) := by decide +kernel
