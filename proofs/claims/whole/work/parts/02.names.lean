theorem dJ9_abs_0f7a4_0 : decode cJ9_abs_0f7a4 0 = .ok (.iload_n 0, 1) := by decide +kernel
theorem dJ9_abs_0f7a4_1 : decode cJ9_abs_0f7a4 1 = .ok (.ifCond .ge 8, 3) := by decide +kernel
theorem dJ9_abs_0f7a4_4 : decode cJ9_abs_0f7a4 4 = .ok (.iload_n 0, 1) := by decide +kernel
theorem dJ9_abs_0f7a4_5 : decode cJ9_abs_0f7a4 5 = .ok (.ineg, 1) := by decide +kernel
theorem dJ9_abs_0f7a4_6 : decode cJ9_abs_0f7a4 6 = .ok (.goto 4, 3) := by decide +kernel
theorem dJ9_abs_0f7a4_9 : decode cJ9_abs_0f7a4 9 = .ok (.iload_n 0, 1) := by decide +kernel
theorem dJ9_abs_0f7a4_10 : decode cJ9_abs_0f7a4 10 = .ok (.ireturn, 1) := by decide +kernel
theorem dJ9_max_7cf53_0 : decode cJ9_max_7cf53 0 = .ok (.iload_n 0, 1) := by decide +kernel
theorem dJ9_max_7cf53_1 : decode cJ9_max_7cf53 1 = .ok (.iload_n 1, 1) := by decide +kernel
theorem dJ9_max_7cf53_2 : decode cJ9_max_7cf53 2 = .ok (.if_icmp .lt 7, 3) := by decide +kernel
theorem dJ9_max_7cf53_5 : decode cJ9_max_7cf53 5 = .ok (.iload_n 0, 1) := by decide +kernel
theorem dJ9_max_7cf53_6 : decode cJ9_max_7cf53 6 = .ok (.goto 4, 3) := by decide +kernel
theorem dJ9_max_7cf53_9 : decode cJ9_max_7cf53 9 = .ok (.iload_n 1, 1) := by decide +kernel
theorem dJ9_max_7cf53_10 : decode cJ9_max_7cf53 10 = .ok (.ireturn, 1) := by decide +kernel
theorem dJ7_fill_53178_0 : decode cJ7_fill_53178 0 = .ok (.iconst 0, 1) := by decide +kernel
theorem dJ7_fill_53178_1 : decode cJ7_fill_53178 1 = .ok (.istore_n 2, 1) := by decide +kernel
theorem dJ7_fill_53178_2 : decode cJ7_fill_53178 2 = .ok (.aload_n 0, 1) := by decide +kernel
theorem dJ7_fill_53178_3 : decode cJ7_fill_53178 3 = .ok (.arraylength, 1) := by decide +kernel
theorem dJ7_fill_53178_4 : decode cJ7_fill_53178 4 = .ok (.istore_n 3, 1) := by decide +kernel
theorem dJ7_fill_53178_5 : decode cJ7_fill_53178 5 = .ok (.iload_n 2, 1) := by decide +kernel
theorem dJ7_fill_53178_6 : decode cJ7_fill_53178 6 = .ok (.iload_n 3, 1) := by decide +kernel
theorem dJ7_fill_53178_7 : decode cJ7_fill_53178 7 = .ok (.if_icmp .ge 13, 3) := by decide +kernel
theorem dJ7_fill_53178_10 : decode cJ7_fill_53178 10 = .ok (.aload_n 0, 1) := by decide +kernel
theorem dJ7_fill_53178_11 : decode cJ7_fill_53178 11 = .ok (.iload_n 2, 1) := by decide +kernel
theorem dJ7_fill_53178_12 : decode cJ7_fill_53178 12 = .ok (.iload_n 1, 1) := by decide +kernel
theorem dJ7_fill_53178_13 : decode cJ7_fill_53178 13 = .ok (.iastore, 1) := by decide +kernel
theorem dJ7_fill_53178_14 : decode cJ7_fill_53178 14 = .ok (.iinc 2 1, 3) := by decide +kernel
theorem dJ7_fill_53178_17 : decode cJ7_fill_53178 17 = .ok (.goto (-12), 3) := by decide +kernel
theorem dJ7_fill_53178_20 : decode cJ7_fill_53178 20 = .ok (.return_, 1) := by decide +kernel
theorem dX0_init_0 : decode cX0_init 0 = .ok (.aload_n 0, 1) := by decide +kernel
theorem dX0_init_1 : decode cX0_init 1 = .ok (.invokespecial 1, 3) := by decide +kernel
theorem dX0_init_4 : decode cX0_init 4 = .ok (.return_, 1) := by decide +kernel
theorem dX0_takeFresh_0 : decode cX0_takeFresh 0 = .ok (.aload_n 0, 1) := by decide +kernel
theorem dX0_takeFresh_1 : decode cX0_takeFresh 1 = .ok (.iload_n 1, 1) := by decide +kernel
theorem dX0_takeFresh_2 : decode cX0_takeFresh 2 = .ok (.putfield 7, 3) := by decide +kernel
theorem dX0_takeFresh_5 : decode cX0_takeFresh 5 = .ok (.aload_n 0, 1) := by decide +kernel
theorem dX0_takeFresh_6 : decode cX0_takeFresh 6 = .ok (.iconst 0, 1) := by decide +kernel
theorem dX0_takeFresh_7 : decode cX0_takeFresh 7 = .ok (.putfield 13, 3) := by decide +kernel
theorem dX0_takeFresh_10 : decode cX0_takeFresh 10 = .ok (.aload_n 0, 1) := by decide +kernel
theorem dX0_takeFresh_11 : decode cX0_takeFresh 11 = .ok (.iconst 0, 1) := by decide +kernel
theorem dX0_takeFresh_12 : decode cX0_takeFresh 12 = .ok (.putfield 16, 3) := by decide +kernel
theorem dX0_takeFresh_15 : decode cX0_takeFresh 15 = .ok (.return_, 1) := by decide +kernel
set_option maxRecDepth 20000 in
theorem ggX0_begin_X0_takeFresh : GoodIn wsX0_begin wsX0_takeFresh := goodIn_r _ [7, 8, 9, 10, 11, 12, 13, 14, 15] (by decide +kernel) (by decide +kernel)
set_option maxRecDepth 20000 in
theorem gX0_begin_X0_takeFresh : GoodIn wsX0_begin (wsV RX0 26 RX0 yX0_takeFresh wsX0_takeFresh) := goodIn_app (goodIn_of _ (by decide +kernel)) ggX0_begin_X0_takeFresh
theorem dX0_begin_0 : decode cX0_begin 0 = .ok (.aload_n 0, 1) := by decide +kernel
theorem dX0_begin_1 : decode cX0_begin 1 = .ok (.iload_n 1, 1) := by decide +kernel
theorem dX0_begin_2 : decode cX0_begin 2 = .ok (.putfield 19, 3) := by decide +kernel
theorem dX0_begin_5 : decode cX0_begin 5 = .ok (.aload_n 0, 1) := by decide +kernel
theorem dX0_begin_6 : decode cX0_begin 6 = .ok (.iconst 0, 1) := by decide +kernel
theorem dX0_begin_7 : decode cX0_begin 7 = .ok (.putfield 22, 3) := by decide +kernel
theorem dX0_begin_10 : decode cX0_begin 10 = .ok (.aload_n 0, 1) := by decide +kernel
theorem dX0_begin_11 : decode cX0_begin 11 = .ok (.iconst 0, 1) := by decide +kernel
theorem dX0_begin_12 : decode cX0_begin 12 = .ok (.invokevirtual 26, 3) := by decide +kernel
theorem dX0_begin_15 : decode cX0_begin 15 = .ok (.return_, 1) := by decide +kernel
theorem dX0_age_0 : decode cX0_age 0 = .ok (.aload_n 0, 1) := by decide +kernel
theorem dX0_age_1 : decode cX0_age 1 = .ok (.getfield 22, 3) := by decide +kernel
theorem dX0_age_4 : decode cX0_age 4 = .ok (.ifCond .ne 28, 3) := by decide +kernel
theorem dX0_age_7 : decode cX0_age 7 = .ok (.aload_n 0, 1) := by decide +kernel
theorem dX0_age_8 : decode cX0_age 8 = .ok (.dup, 1) := by decide +kernel
theorem dX0_age_9 : decode cX0_age 9 = .ok (.getfield 13, 3) := by decide +kernel
theorem dX0_age_12 : decode cX0_age 12 = .ok (.iload_n 1, 1) := by decide +kernel
theorem dX0_age_13 : decode cX0_age 13 = .ok (.aload_n 0, 1) := by decide +kernel
theorem dX0_age_14 : decode cX0_age 14 = .ok (.getfield 19, 3) := by decide +kernel
theorem dX0_age_17 : decode cX0_age 17 = .ok (.imul, 1) := by decide +kernel
theorem dX0_age_18 : decode cX0_age 18 = .ok (.iadd, 1) := by decide +kernel
theorem dX0_age_19 : decode cX0_age 19 = .ok (.putfield 13, 3) := by decide +kernel
theorem dX0_age_22 : decode cX0_age 22 = .ok (.aload_n 0, 1) := by decide +kernel
theorem dX0_age_23 : decode cX0_age 23 = .ok (.dup, 1) := by decide +kernel
theorem dX0_age_24 : decode cX0_age 24 = .ok (.getfield 16, 3) := by decide +kernel
theorem dX0_age_27 : decode cX0_age 27 = .ok (.iload_n 1, 1) := by decide +kernel
theorem dX0_age_28 : decode cX0_age 28 = .ok (.iadd, 1) := by decide +kernel
theorem dX0_age_29 : decode cX0_age 29 = .ok (.putfield 16, 3) := by decide +kernel
theorem dX0_age_32 : decode cX0_age 32 = .ok (.return_, 1) := by decide +kernel
theorem dX1_init_0 : decode cX1_init 0 = .ok (.aload_n 0, 1) := by decide +kernel
theorem dX1_init_1 : decode cX1_init 1 = .ok (.invokespecial 3, 3) := by decide +kernel
theorem dX1_init_4 : decode cX1_init 4 = .ok (.aload_n 0, 1) := by decide +kernel
theorem dX1_init_5 : decode cX1_init 5 = .ok (.iconst 3, 1) := by decide +kernel
theorem dX1_init_6 : decode cX1_init 6 = .ok (.newarray .int, 2) := by decide +kernel
theorem dX1_init_8 : decode cX1_init 8 = .ok (.putfield 9, 3) := by decide +kernel
theorem dX1_init_11 : decode cX1_init 11 = .ok (.return_, 1) := by decide +kernel
theorem dX1_lossIn_0 : decode cX1_lossIn 0 = .ok (.iload_n 2, 1) := by decide +kernel
theorem dX1_lossIn_1 : decode cX1_lossIn 1 = .ok (.iload_n 1, 1) := by decide +kernel
theorem dX1_lossIn_2 : decode cX1_lossIn 2 = .ok (.iconst 1, 1) := by decide +kernel
theorem dX1_lossIn_3 : decode cX1_lossIn 3 = .ok (.iadd, 1) := by decide +kernel
theorem dX1_lossIn_4 : decode cX1_lossIn 4 = .ok (.imul, 1) := by decide +kernel
theorem dX1_lossIn_5 : decode cX1_lossIn 5 = .ok (.bipush 10, 2) := by decide +kernel
theorem dX1_lossIn_7 : decode cX1_lossIn 7 = .ok (.idiv, 1) := by decide +kernel
theorem dX1_lossIn_8 : decode cX1_lossIn 8 = .ok (.iload_n 3, 1) := by decide +kernel
theorem dX1_lossIn_9 : decode cX1_lossIn 9 = .ok (.iload 4, 2) := by decide +kernel
theorem dX1_lossIn_11 : decode cX1_lossIn 11 = .ok (.imul, 1) := by decide +kernel
theorem dX1_lossIn_12 : decode cX1_lossIn 12 = .ok (.iconst 5, 1) := by decide +kernel
theorem dX1_lossIn_13 : decode cX1_lossIn 13 = .ok (.idiv, 1) := by decide +kernel
theorem dX1_lossIn_14 : decode cX1_lossIn 14 = .ok (.iadd, 1) := by decide +kernel
theorem dX1_lossIn_15 : decode cX1_lossIn 15 = .ok (.istore 5, 2) := by decide +kernel
theorem dX1_lossIn_17 : decode cX1_lossIn 17 = .ok (.aload_n 0, 1) := by decide +kernel
theorem dX1_lossIn_18 : decode cX1_lossIn 18 = .ok (.getfield 15, 3) := by decide +kernel
theorem dX1_lossIn_21 : decode cX1_lossIn 21 = .ok (.iconst 2, 1) := by decide +kernel
theorem dX1_lossIn_22 : decode cX1_lossIn 22 = .ok (.if_icmp .ne 10, 3) := by decide +kernel
theorem dX1_lossIn_25 : decode cX1_lossIn 25 = .ok (.iload 5, 2) := by decide +kernel
theorem dX1_lossIn_27 : decode cX1_lossIn 27 = .ok (.iconst 2, 1) := by decide +kernel
theorem dX1_lossIn_28 : decode cX1_lossIn 28 = .ok (.idiv, 1) := by decide +kernel
theorem dX1_lossIn_29 : decode cX1_lossIn 29 = .ok (.goto 5, 3) := by decide +kernel
theorem dX1_lossIn_32 : decode cX1_lossIn 32 = .ok (.iload 5, 2) := by decide +kernel
theorem dX1_lossIn_34 : decode cX1_lossIn 34 = .ok (.ireturn, 1) := by decide +kernel
set_option maxRecDepth 20000 in
theorem ggX1_comesBack_X1_lossIn : GoodIn wsX1_comesBack wsX1_lossIn := goodIn_r _ [11, 6, 12, 13] (by decide +kernel) (by decide +kernel)
set_option maxRecDepth 20000 in
theorem gX1_comesBack_X1_lossIn : GoodIn wsX1_comesBack (wsV RX1 19 RX1 yX1_lossIn wsX1_lossIn) := goodIn_app (goodIn_of _ (by decide +kernel)) ggX1_comesBack_X1_lossIn
theorem dX1_comesBack_0 : decode cX1_comesBack 0 = .ok (.iconst 0, 1) := by decide +kernel
theorem dX1_comesBack_1 : decode cX1_comesBack 1 = .ok (.aload_n 0, 1) := by decide +kernel
theorem dX1_comesBack_2 : decode cX1_comesBack 2 = .ok (.getfield 9, 3) := by decide +kernel
theorem dX1_comesBack_5 : decode cX1_comesBack 5 = .ok (.iload_n 1, 1) := by decide +kernel
theorem dX1_comesBack_6 : decode cX1_comesBack 6 = .ok (.iaload, 1) := by decide +kernel
theorem dX1_comesBack_7 : decode cX1_comesBack 7 = .ok (.aload_n 0, 1) := by decide +kernel
theorem dX1_comesBack_8 : decode cX1_comesBack 8 = .ok (.iload_n 1, 1) := by decide +kernel
theorem dX1_comesBack_9 : decode cX1_comesBack 9 = .ok (.iload_n 2, 1) := by decide +kernel
theorem dX1_comesBack_10 : decode cX1_comesBack 10 = .ok (.iload_n 3, 1) := by decide +kernel
theorem dX1_comesBack_11 : decode cX1_comesBack 11 = .ok (.iload 4, 2) := by decide +kernel
theorem dX1_comesBack_13 : decode cX1_comesBack 13 = .ok (.invokevirtual 19, 3) := by decide +kernel
theorem dX1_comesBack_16 : decode cX1_comesBack 16 = .ok (.isub, 1) := by decide +kernel
theorem dX1_comesBack_17 : decode cX1_comesBack 17 = .ok (.invokestatic 23, 3) := by decide +kernel
theorem dX1_comesBack_20 : decode cX1_comesBack 20 = .ok (.istore 6, 2) := by decide +kernel
theorem dX1_comesBack_22 : decode cX1_comesBack 22 = .ok (.iload 5, 2) := by decide +kernel
theorem dX1_comesBack_24 : decode cX1_comesBack 24 = .ok (.ifCond .eq 18, 3) := by decide +kernel
theorem dX1_comesBack_27 : decode cX1_comesBack 27 = .ok (.aload_n 0, 1) := by decide +kernel
theorem dX1_comesBack_28 : decode cX1_comesBack 28 = .ok (.getfield 15, 3) := by decide +kernel
theorem dX1_comesBack_31 : decode cX1_comesBack 31 = .ok (.iconst 1, 1) := by decide +kernel
theorem dX1_comesBack_32 : decode cX1_comesBack 32 = .ok (.if_icmp .lt 10, 3) := by decide +kernel
theorem dX1_comesBack_35 : decode cX1_comesBack 35 = .ok (.iload 6, 2) := by decide +kernel
theorem dX1_comesBack_37 : decode cX1_comesBack 37 = .ok (.iconst 5, 1) := by decide +kernel
theorem dX1_comesBack_38 : decode cX1_comesBack 38 = .ok (.iadd, 1) := by decide +kernel
theorem dX1_comesBack_39 : decode cX1_comesBack 39 = .ok (.goto 5, 3) := by decide +kernel
theorem dX1_comesBack_42 : decode cX1_comesBack 42 = .ok (.iload 6, 2) := by decide +kernel
theorem dX1_comesBack_44 : decode cX1_comesBack 44 = .ok (.ireturn, 1) := by decide +kernel
theorem dX2_init_0 : decode cX2_init 0 = .ok (.aload_n 0, 1) := by decide +kernel
theorem dX2_init_1 : decode cX2_init 1 = .ok (.invokespecial 3, 3) := by decide +kernel
theorem dX2_init_4 : decode cX2_init 4 = .ok (.aload_n 0, 1) := by decide +kernel
theorem dX2_init_5 : decode cX2_init 5 = .ok (.sipush 200, 3) := by decide +kernel
theorem dX2_init_8 : decode cX2_init 8 = .ok (.newarray .int, 2) := by decide +kernel
theorem dX2_init_10 : decode cX2_init 10 = .ok (.putfield 9, 3) := by decide +kernel
theorem dX2_init_13 : decode cX2_init 13 = .ok (.aload_n 0, 1) := by decide +kernel
theorem dX2_init_14 : decode cX2_init 14 = .ok (.bipush 24, 2) := by decide +kernel
theorem dX2_init_16 : decode cX2_init 16 = .ok (.newarray .int, 2) := by decide +kernel
theorem dX2_init_18 : decode cX2_init 18 = .ok (.putfield 15, 3) := by decide +kernel
theorem dX2_init_21 : decode cX2_init 21 = .ok (.aload_n 0, 1) := by decide +kernel
theorem dX2_init_22 : decode cX2_init 22 = .ok (.aload_n 1, 1) := by decide +kernel
theorem dX2_init_23 : decode cX2_init 23 = .ok (.putfield 18, 3) := by decide +kernel
theorem dX2_init_26 : decode cX2_init 26 = .ok (.return_, 1) := by decide +kernel
set_option maxRecDepth 20000 in
theorem ggX2_takeAsItIs_X6_views : GoodIn wsX2_takeAsItIs wsX6_views := goodIn_r _ [8, 9, 49, 50, 51, 52, 53, 54, 55, 56, 57, 58, 59] (by decide +kernel) (by decide +kernel)
set_option maxRecDepth 20000 in
theorem gX2_takeAsItIs_X6_views : GoodIn wsX2_takeAsItIs (wsV RX2 28 RX6 yX6_views wsX6_views) := goodIn_app (goodIn_of _ (by decide +kernel)) ggX2_takeAsItIs_X6_views
set_option maxRecDepth 20000 in
theorem ggX2_takeAsItIs_X6_lookOfCell : GoodIn wsX2_takeAsItIs wsX6_lookOfCell := goodIn_r _ [13, 14, 15, 16, 17, 18, 19, 20, 21, 7, 22, 23, 24, 25, 26, 27, 28, 29, 30, 31, 32, 33, 34, 35, 36, 37, 38, 39, 49, 50, 51, 52, 53, 54, 55, 56, 57, 58, 59, 60, 61, 62, 63, 64, 65, 66] (by decide +kernel) (by decide +kernel)
set_option maxRecDepth 20000 in
theorem gX2_takeAsItIs_X6_lookOfCell : GoodIn wsX2_takeAsItIs (wsV RX2 32 RX6 yX6_lookOfCell wsX6_lookOfCell) := goodIn_app (goodIn_of _ (by decide +kernel)) ggX2_takeAsItIs_X6_lookOfCell
set_option maxRecDepth 20000 in
theorem ggX2_takeAsItIs_X2_unpaint : GoodIn wsX2_takeAsItIs wsX2_unpaint := goodIn_r _ [44, 1, 2, 45, 46, 47, 48, 49, 50, 51, 52, 53, 54, 55, 56, 57, 58, 59] (by decide +kernel) (by decide +kernel)
set_option maxRecDepth 20000 in
theorem gX2_takeAsItIs_X2_unpaint : GoodIn wsX2_takeAsItIs (wsV RX2 36 RX2 yX2_unpaint wsX2_unpaint) := goodIn_app (goodIn_of _ (by decide +kernel)) ggX2_takeAsItIs_X2_unpaint
theorem dX2_takeAsItIs_0 : decode cX2_takeAsItIs 0 = .ok (.iconst 0, 1) := by decide +kernel
theorem dX2_takeAsItIs_1 : decode cX2_takeAsItIs 1 = .ok (.istore_n 1, 1) := by decide +kernel
theorem dX2_takeAsItIs_2 : decode cX2_takeAsItIs 2 = .ok (.iload_n 1, 1) := by decide +kernel
theorem dX2_takeAsItIs_3 : decode cX2_takeAsItIs 3 = .ok (.aload_n 0, 1) := by decide +kernel
theorem dX2_takeAsItIs_4 : decode cX2_takeAsItIs 4 = .ok (.getfield 18, 3) := by decide +kernel
theorem dX2_takeAsItIs_7 : decode cX2_takeAsItIs 7 = .ok (.getfield 22, 3) := by decide +kernel
theorem dX2_takeAsItIs_10 : decode cX2_takeAsItIs 10 = .ok (.if_icmp .ge 62, 3) := by decide +kernel
theorem dX2_takeAsItIs_13 : decode cX2_takeAsItIs 13 = .ok (.iconst 0, 1) := by decide +kernel
theorem dX2_takeAsItIs_14 : decode cX2_takeAsItIs 14 = .ok (.istore_n 2, 1) := by decide +kernel
theorem dX2_takeAsItIs_15 : decode cX2_takeAsItIs 15 = .ok (.iload_n 2, 1) := by decide +kernel
theorem dX2_takeAsItIs_16 : decode cX2_takeAsItIs 16 = .ok (.aload_n 0, 1) := by decide +kernel
theorem dX2_takeAsItIs_17 : decode cX2_takeAsItIs 17 = .ok (.getfield 18, 3) := by decide +kernel
theorem dX2_takeAsItIs_20 : decode cX2_takeAsItIs 20 = .ok (.invokevirtual 28, 3) := by decide +kernel
theorem dX2_takeAsItIs_23 : decode cX2_takeAsItIs 23 = .ok (.if_icmp .ge 43, 3) := by decide +kernel
theorem dX2_takeAsItIs_26 : decode cX2_takeAsItIs 26 = .ok (.aload_n 0, 1) := by decide +kernel
theorem dX2_takeAsItIs_27 : decode cX2_takeAsItIs 27 = .ok (.getfield 9, 3) := by decide +kernel
theorem dX2_takeAsItIs_30 : decode cX2_takeAsItIs 30 = .ok (.iload_n 1, 1) := by decide +kernel
theorem dX2_takeAsItIs_31 : decode cX2_takeAsItIs 31 = .ok (.bipush 8, 2) := by decide +kernel
theorem dX2_takeAsItIs_33 : decode cX2_takeAsItIs 33 = .ok (.imul, 1) := by decide +kernel
theorem dX2_takeAsItIs_34 : decode cX2_takeAsItIs 34 = .ok (.iload_n 2, 1) := by decide +kernel
theorem dX2_takeAsItIs_35 : decode cX2_takeAsItIs 35 = .ok (.iadd, 1) := by decide +kernel
theorem dX2_takeAsItIs_36 : decode cX2_takeAsItIs 36 = .ok (.aload_n 0, 1) := by decide +kernel
theorem dX2_takeAsItIs_37 : decode cX2_takeAsItIs 37 = .ok (.getfield 18, 3) := by decide +kernel
theorem dX2_takeAsItIs_40 : decode cX2_takeAsItIs 40 = .ok (.iload_n 1, 1) := by decide +kernel
theorem dX2_takeAsItIs_41 : decode cX2_takeAsItIs 41 = .ok (.iload_n 2, 1) := by decide +kernel
theorem dX2_takeAsItIs_42 : decode cX2_takeAsItIs 42 = .ok (.iconst 2, 1) := by decide +kernel
theorem dX2_takeAsItIs_43 : decode cX2_takeAsItIs 43 = .ok (.idiv, 1) := by decide +kernel
theorem dX2_takeAsItIs_44 : decode cX2_takeAsItIs 44 = .ok (.iload_n 2, 1) := by decide +kernel
theorem dX2_takeAsItIs_45 : decode cX2_takeAsItIs 45 = .ok (.iconst 2, 1) := by decide +kernel
theorem dX2_takeAsItIs_46 : decode cX2_takeAsItIs 46 = .ok (.irem, 1) := by decide +kernel
theorem dX2_takeAsItIs_47 : decode cX2_takeAsItIs 47 = .ok (.iconst 1, 1) := by decide +kernel
theorem dX2_takeAsItIs_48 : decode cX2_takeAsItIs 48 = .ok (.if_icmp .ne 7, 3) := by decide +kernel
theorem dX2_takeAsItIs_51 : decode cX2_takeAsItIs 51 = .ok (.iconst 1, 1) := by decide +kernel
theorem dX2_takeAsItIs_52 : decode cX2_takeAsItIs 52 = .ok (.goto 4, 3) := by decide +kernel
theorem dX2_takeAsItIs_55 : decode cX2_takeAsItIs 55 = .ok (.iconst 0, 1) := by decide +kernel
theorem dX2_takeAsItIs_56 : decode cX2_takeAsItIs 56 = .ok (.invokevirtual 32, 3) := by decide +kernel
theorem dX2_takeAsItIs_59 : decode cX2_takeAsItIs 59 = .ok (.iastore, 1) := by decide +kernel
theorem dX2_takeAsItIs_60 : decode cX2_takeAsItIs 60 = .ok (.iinc 2 1, 3) := by decide +kernel
theorem dX2_takeAsItIs_63 : decode cX2_takeAsItIs 63 = .ok (.goto (-48), 3) := by decide +kernel
theorem dX2_takeAsItIs_66 : decode cX2_takeAsItIs 66 = .ok (.iinc 1 1, 3) := by decide +kernel
theorem dX2_takeAsItIs_69 : decode cX2_takeAsItIs 69 = .ok (.goto (-67), 3) := by decide +kernel
theorem dX2_takeAsItIs_72 : decode cX2_takeAsItIs 72 = .ok (.aload_n 0, 1) := by decide +kernel
theorem dX2_takeAsItIs_73 : decode cX2_takeAsItIs 73 = .ok (.invokevirtual 36, 3) := by decide +kernel
theorem dX2_takeAsItIs_76 : decode cX2_takeAsItIs 76 = .ok (.return_, 1) := by decide +kernel
set_option maxRecDepth 20000 in
theorem ggX2_takeFresh_X6_views : GoodIn wsX2_takeFresh wsX6_views := goodIn_r _ [8, 9, 34, 35, 36, 37, 38, 39, 40, 41, 42, 43, 44] (by decide +kernel) (by decide +kernel)
set_option maxRecDepth 20000 in
theorem gX2_takeFresh_X6_views : GoodIn wsX2_takeFresh (wsV RX2 28 RX6 yX6_views wsX6_views) := goodIn_app (goodIn_of _ (by decide +kernel)) ggX2_takeFresh_X6_views
set_option maxRecDepth 20000 in
theorem ggX2_takeFresh_X6_lookOfCoat : GoodIn wsX2_takeFresh wsX6_lookOfCoat := goodIn_r _ [13, 14, 15, 16, 17, 18, 19, 20, 21, 22, 23, 24, 25, 26, 27, 28, 29, 30, 34, 35, 36, 37, 38, 39, 40, 41, 42, 43, 44, 45, 46] (by decide +kernel) (by decide +kernel)
set_option maxRecDepth 20000 in
theorem gX2_takeFresh_X6_lookOfCoat : GoodIn wsX2_takeFresh (wsV RX2 43 RX6 yX6_lookOfCoat wsX6_lookOfCoat) := goodIn_app (goodIn_of _ (by decide +kernel)) ggX2_takeFresh_X6_lookOfCoat
theorem dX2_takeFresh_0 : decode cX2_takeFresh 0 = .ok (.iconst 0, 1) := by decide +kernel
theorem dX2_takeFresh_1 : decode cX2_takeFresh 1 = .ok (.istore_n 2, 1) := by decide +kernel
theorem dX2_takeFresh_2 : decode cX2_takeFresh 2 = .ok (.iload_n 2, 1) := by decide +kernel
theorem dX2_takeFresh_3 : decode cX2_takeFresh 3 = .ok (.aload_n 0, 1) := by decide +kernel
theorem dX2_takeFresh_4 : decode cX2_takeFresh 4 = .ok (.getfield 18, 3) := by decide +kernel
theorem dX2_takeFresh_7 : decode cX2_takeFresh 7 = .ok (.invokevirtual 28, 3) := by decide +kernel
theorem dX2_takeFresh_10 : decode cX2_takeFresh 10 = .ok (.if_icmp .ge 52, 3) := by decide +kernel
theorem dX2_takeFresh_13 : decode cX2_takeFresh 13 = .ok (.aload_n 0, 1) := by decide +kernel
theorem dX2_takeFresh_14 : decode cX2_takeFresh 14 = .ok (.getfield 9, 3) := by decide +kernel
theorem dX2_takeFresh_17 : decode cX2_takeFresh 17 = .ok (.sipush 192, 3) := by decide +kernel
theorem dX2_takeFresh_20 : decode cX2_takeFresh 20 = .ok (.iload_n 2, 1) := by decide +kernel
theorem dX2_takeFresh_21 : decode cX2_takeFresh 21 = .ok (.iadd, 1) := by decide +kernel
theorem dX2_takeFresh_22 : decode cX2_takeFresh 22 = .ok (.aload_n 0, 1) := by decide +kernel
theorem dX2_takeFresh_23 : decode cX2_takeFresh 23 = .ok (.getfield 18, 3) := by decide +kernel
theorem dX2_takeFresh_26 : decode cX2_takeFresh 26 = .ok (.aload_n 0, 1) := by decide +kernel
theorem dX2_takeFresh_27 : decode cX2_takeFresh 27 = .ok (.getfield 18, 3) := by decide +kernel
theorem dX2_takeFresh_30 : decode cX2_takeFresh 30 = .ok (.getfield 39, 3) := by decide +kernel
theorem dX2_takeFresh_33 : decode cX2_takeFresh 33 = .ok (.iload_n 1, 1) := by decide +kernel
theorem dX2_takeFresh_34 : decode cX2_takeFresh 34 = .ok (.aaload, 1) := by decide +kernel
theorem dX2_takeFresh_35 : decode cX2_takeFresh 35 = .ok (.iconst 0, 1) := by decide +kernel
theorem dX2_takeFresh_36 : decode cX2_takeFresh 36 = .ok (.iconst 0, 1) := by decide +kernel
theorem dX2_takeFresh_37 : decode cX2_takeFresh 37 = .ok (.iload_n 2, 1) := by decide +kernel
theorem dX2_takeFresh_38 : decode cX2_takeFresh 38 = .ok (.iconst 2, 1) := by decide +kernel
theorem dX2_takeFresh_39 : decode cX2_takeFresh 39 = .ok (.idiv, 1) := by decide +kernel
theorem dX2_takeFresh_40 : decode cX2_takeFresh 40 = .ok (.iload_n 2, 1) := by decide +kernel
theorem dX2_takeFresh_41 : decode cX2_takeFresh 41 = .ok (.iconst 2, 1) := by decide +kernel
theorem dX2_takeFresh_42 : decode cX2_takeFresh 42 = .ok (.irem, 1) := by decide +kernel
theorem dX2_takeFresh_43 : decode cX2_takeFresh 43 = .ok (.iconst 1, 1) := by decide +kernel
theorem dX2_takeFresh_44 : decode cX2_takeFresh 44 = .ok (.if_icmp .ne 7, 3) := by decide +kernel
theorem dX2_takeFresh_47 : decode cX2_takeFresh 47 = .ok (.iconst 1, 1) := by decide +kernel
theorem dX2_takeFresh_48 : decode cX2_takeFresh 48 = .ok (.goto 4, 3) := by decide +kernel
theorem dX2_takeFresh_51 : decode cX2_takeFresh 51 = .ok (.iconst 0, 1) := by decide +kernel
theorem dX2_takeFresh_52 : decode cX2_takeFresh 52 = .ok (.invokevirtual 43, 3) := by decide +kernel
theorem dX2_takeFresh_55 : decode cX2_takeFresh 55 = .ok (.iastore, 1) := by decide +kernel
theorem dX2_takeFresh_56 : decode cX2_takeFresh 56 = .ok (.iinc 2 1, 3) := by decide +kernel
theorem dX2_takeFresh_59 : decode cX2_takeFresh 59 = .ok (.goto (-57), 3) := by decide +kernel
theorem dX2_takeFresh_62 : decode cX2_takeFresh 62 = .ok (.return_, 1) := by decide +kernel
theorem dX2_unpaint_0 : decode cX2_unpaint 0 = .ok (.iconst 0, 1) := by decide +kernel
theorem dX2_unpaint_1 : decode cX2_unpaint 1 = .ok (.istore_n 1, 1) := by decide +kernel
theorem dX2_unpaint_2 : decode cX2_unpaint 2 = .ok (.iload_n 1, 1) := by decide +kernel
theorem dX2_unpaint_3 : decode cX2_unpaint 3 = .ok (.aload_n 0, 1) := by decide +kernel
theorem dX2_unpaint_4 : decode cX2_unpaint 4 = .ok (.getfield 18, 3) := by decide +kernel
theorem dX2_unpaint_7 : decode cX2_unpaint 7 = .ok (.getfield 22, 3) := by decide +kernel
theorem dX2_unpaint_10 : decode cX2_unpaint 10 = .ok (.if_icmp .ge 16, 3) := by decide +kernel
theorem dX2_unpaint_13 : decode cX2_unpaint 13 = .ok (.aload_n 0, 1) := by decide +kernel
theorem dX2_unpaint_14 : decode cX2_unpaint 14 = .ok (.getfield 15, 3) := by decide +kernel
theorem dX2_unpaint_17 : decode cX2_unpaint 17 = .ok (.iload_n 1, 1) := by decide +kernel
theorem dX2_unpaint_18 : decode cX2_unpaint 18 = .ok (.iload_n 1, 1) := by decide +kernel
theorem dX2_unpaint_19 : decode cX2_unpaint 19 = .ok (.iastore, 1) := by decide +kernel
theorem dX2_unpaint_20 : decode cX2_unpaint 20 = .ok (.iinc 1 1, 3) := by decide +kernel
theorem dX2_unpaint_23 : decode cX2_unpaint 23 = .ok (.goto (-21), 3) := by decide +kernel
theorem dX2_unpaint_26 : decode cX2_unpaint 26 = .ok (.return_, 1) := by decide +kernel
theorem dX2_paintOne_0 : decode cX2_paintOne 0 = .ok (.aload_n 0, 1) := by decide +kernel
theorem dX2_paintOne_1 : decode cX2_paintOne 1 = .ok (.getfield 15, 3) := by decide +kernel
theorem dX2_paintOne_4 : decode cX2_paintOne 4 = .ok (.iload_n 1, 1) := by decide +kernel
theorem dX2_paintOne_5 : decode cX2_paintOne 5 = .ok (.bipush 24, 2) := by decide +kernel
theorem dX2_paintOne_7 : decode cX2_paintOne 7 = .ok (.iastore, 1) := by decide +kernel
theorem dX2_paintOne_8 : decode cX2_paintOne 8 = .ok (.return_, 1) := by decide +kernel
set_option maxRecDepth 20000 in
theorem ggX2_countSeen_X2_isSeenToRight : GoodIn wsX2_countSeen wsX2_isSeenToRight := goodIn_r _ [7, 1, 8, 9, 10, 11, 12, 13, 14, 15, 16, 17, 6, 18, 19, 20, 21, 22, 23, 24, 25, 26, 27, 28, 29, 30, 35, 36, 37, 38, 39, 40, 41, 42, 43, 44, 45, 46, 47, 48] (by decide +kernel) (by decide +kernel)
set_option maxRecDepth 20000 in
theorem gX2_countSeen_X2_isSeenToRight : GoodIn wsX2_countSeen (wsV RX2 47 RX2 yX2_isSeenToRight wsX2_isSeenToRight) := goodIn_app (goodIn_of _ (by decide +kernel)) ggX2_countSeen_X2_isSeenToRight
set_option maxRecDepth 20000 in
theorem ggX2_countSeen_X2_isSeenBelow : GoodIn wsX2_countSeen wsX2_isSeenBelow := goodIn_r _ [34, 1, 8, 2, 15, 16, 17, 6, 18, 19, 20, 21, 22, 23, 24, 25, 26, 27, 28, 12, 29, 30, 35, 36, 37, 38, 39, 40, 41, 42, 43, 44, 45, 46, 47, 48] (by decide +kernel) (by decide +kernel)
set_option maxRecDepth 20000 in
theorem gX2_countSeen_X2_isSeenBelow : GoodIn wsX2_countSeen (wsV RX2 51 RX2 yX2_isSeenBelow wsX2_isSeenBelow) := goodIn_app (goodIn_of _ (by decide +kernel)) ggX2_countSeen_X2_isSeenBelow
theorem dX2_countSeen_0 : decode cX2_countSeen 0 = .ok (.iconst 0, 1) := by decide +kernel
theorem dX2_countSeen_1 : decode cX2_countSeen 1 = .ok (.istore_n 1, 1) := by decide +kernel
theorem dX2_countSeen_2 : decode cX2_countSeen 2 = .ok (.iconst 0, 1) := by decide +kernel
theorem dX2_countSeen_3 : decode cX2_countSeen 3 = .ok (.istore_n 2, 1) := by decide +kernel
theorem dX2_countSeen_4 : decode cX2_countSeen 4 = .ok (.iload_n 2, 1) := by decide +kernel
theorem dX2_countSeen_5 : decode cX2_countSeen 5 = .ok (.aload_n 0, 1) := by decide +kernel
theorem dX2_countSeen_6 : decode cX2_countSeen 6 = .ok (.getfield 18, 3) := by decide +kernel
theorem dX2_countSeen_9 : decode cX2_countSeen 9 = .ok (.getfield 22, 3) := by decide +kernel
theorem dX2_countSeen_12 : decode cX2_countSeen 12 = .ok (.if_icmp .ge 41, 3) := by decide +kernel
theorem dX2_countSeen_15 : decode cX2_countSeen 15 = .ok (.iload_n 1, 1) := by decide +kernel
theorem dX2_countSeen_16 : decode cX2_countSeen 16 = .ok (.aload_n 0, 1) := by decide +kernel
theorem dX2_countSeen_17 : decode cX2_countSeen 17 = .ok (.iload_n 2, 1) := by decide +kernel
theorem dX2_countSeen_18 : decode cX2_countSeen 18 = .ok (.invokevirtual 47, 3) := by decide +kernel
theorem dX2_countSeen_21 : decode cX2_countSeen 21 = .ok (.ifCond .eq 7, 3) := by decide +kernel
theorem dX2_countSeen_24 : decode cX2_countSeen 24 = .ok (.iconst 1, 1) := by decide +kernel
theorem dX2_countSeen_25 : decode cX2_countSeen 25 = .ok (.goto 4, 3) := by decide +kernel
theorem dX2_countSeen_28 : decode cX2_countSeen 28 = .ok (.iconst 0, 1) := by decide +kernel
theorem dX2_countSeen_29 : decode cX2_countSeen 29 = .ok (.iadd, 1) := by decide +kernel
theorem dX2_countSeen_30 : decode cX2_countSeen 30 = .ok (.istore_n 1, 1) := by decide +kernel
theorem dX2_countSeen_31 : decode cX2_countSeen 31 = .ok (.iload_n 1, 1) := by decide +kernel
theorem dX2_countSeen_32 : decode cX2_countSeen 32 = .ok (.aload_n 0, 1) := by decide +kernel
theorem dX2_countSeen_33 : decode cX2_countSeen 33 = .ok (.iload_n 2, 1) := by decide +kernel
theorem dX2_countSeen_34 : decode cX2_countSeen 34 = .ok (.invokevirtual 51, 3) := by decide +kernel
theorem dX2_countSeen_37 : decode cX2_countSeen 37 = .ok (.ifCond .eq 7, 3) := by decide +kernel
theorem dX2_countSeen_40 : decode cX2_countSeen 40 = .ok (.iconst 1, 1) := by decide +kernel
theorem dX2_countSeen_41 : decode cX2_countSeen 41 = .ok (.goto 4, 3) := by decide +kernel
theorem dX2_countSeen_44 : decode cX2_countSeen 44 = .ok (.iconst 0, 1) := by decide +kernel
theorem dX2_countSeen_45 : decode cX2_countSeen 45 = .ok (.iadd, 1) := by decide +kernel
theorem dX2_countSeen_46 : decode cX2_countSeen 46 = .ok (.istore_n 1, 1) := by decide +kernel
theorem dX2_countSeen_47 : decode cX2_countSeen 47 = .ok (.iinc 2 1, 3) := by decide +kernel
theorem dX2_countSeen_50 : decode cX2_countSeen 50 = .ok (.goto (-46), 3) := by decide +kernel
theorem dX2_countSeen_53 : decode cX2_countSeen 53 = .ok (.iload_n 1, 1) := by decide +kernel
theorem dX2_countSeen_54 : decode cX2_countSeen 54 = .ok (.ireturn, 1) := by decide +kernel
set_option maxRecDepth 20000 in
theorem ggX2_countSeenOf_X2_isSeenToRight : GoodIn wsX2_countSeenOf wsX2_isSeenToRight := goodIn_r _ [7, 1, 2, 8, 9, 10, 11, 12, 13, 14, 15, 16, 6, 17, 18, 19, 20, 21, 22, 23, 24, 25, 26, 27, 28, 29, 35, 36, 37, 38, 39, 40, 41, 42, 43, 44, 45, 46, 47, 48] (by decide +kernel) (by decide +kernel)
set_option maxRecDepth 20000 in
theorem gX2_countSeenOf_X2_isSeenToRight : GoodIn wsX2_countSeenOf (wsV RX2 47 RX2 yX2_isSeenToRight wsX2_isSeenToRight) := goodIn_app (goodIn_of _ (by decide +kernel)) ggX2_countSeenOf_X2_isSeenToRight
set_option maxRecDepth 20000 in
theorem ggX2_countSeenOf_X2_isSeenBelow : GoodIn wsX2_countSeenOf wsX2_isSeenBelow := goodIn_r _ [33, 1, 2, 34, 14, 15, 16, 6, 17, 18, 19, 20, 21, 22, 23, 24, 25, 26, 27, 11, 28, 29, 35, 36, 37, 38, 39, 40, 41, 42, 43, 44, 45, 46, 47, 48] (by decide +kernel) (by decide +kernel)
set_option maxRecDepth 20000 in
theorem gX2_countSeenOf_X2_isSeenBelow : GoodIn wsX2_countSeenOf (wsV RX2 51 RX2 yX2_isSeenBelow wsX2_isSeenBelow) := goodIn_app (goodIn_of _ (by decide +kernel)) ggX2_countSeenOf_X2_isSeenBelow
set_option maxRecDepth 20000 in
theorem ggX2_countSeenOf_X6_columnOf : GoodIn wsX2_countSeenOf wsX6_columnOf := goodIn_r _ [12, 13, 38, 39, 40, 41, 42, 43, 44, 45, 46, 47, 48] (by decide +kernel) (by decide +kernel)
set_option maxRecDepth 20000 in
theorem gX2_countSeenOf_X6_columnOf : GoodIn wsX2_countSeenOf (wsV RX2 54 RX6 yX6_columnOf wsX6_columnOf) := goodIn_app (goodIn_of _ (by decide +kernel)) ggX2_countSeenOf_X6_columnOf
theorem dX2_countSeenOf_0 : decode cX2_countSeenOf 0 = .ok (.aload_n 0, 1) := by decide +kernel
theorem dX2_countSeenOf_1 : decode cX2_countSeenOf 1 = .ok (.iload_n 1, 1) := by decide +kernel
theorem dX2_countSeenOf_2 : decode cX2_countSeenOf 2 = .ok (.invokevirtual 47, 3) := by decide +kernel
theorem dX2_countSeenOf_5 : decode cX2_countSeenOf 5 = .ok (.ifCond .eq 7, 3) := by decide +kernel
theorem dX2_countSeenOf_8 : decode cX2_countSeenOf 8 = .ok (.iconst 1, 1) := by decide +kernel
theorem dX2_countSeenOf_9 : decode cX2_countSeenOf 9 = .ok (.goto 4, 3) := by decide +kernel
theorem dX2_countSeenOf_12 : decode cX2_countSeenOf 12 = .ok (.iconst 0, 1) := by decide +kernel
theorem dX2_countSeenOf_13 : decode cX2_countSeenOf 13 = .ok (.istore_n 2, 1) := by decide +kernel
theorem dX2_countSeenOf_14 : decode cX2_countSeenOf 14 = .ok (.iload_n 2, 1) := by decide +kernel
theorem dX2_countSeenOf_15 : decode cX2_countSeenOf 15 = .ok (.aload_n 0, 1) := by decide +kernel
theorem dX2_countSeenOf_16 : decode cX2_countSeenOf 16 = .ok (.iload_n 1, 1) := by decide +kernel
theorem dX2_countSeenOf_17 : decode cX2_countSeenOf 17 = .ok (.invokevirtual 51, 3) := by decide +kernel
theorem dX2_countSeenOf_20 : decode cX2_countSeenOf 20 = .ok (.ifCond .eq 7, 3) := by decide +kernel
theorem dX2_countSeenOf_23 : decode cX2_countSeenOf 23 = .ok (.iconst 1, 1) := by decide +kernel
theorem dX2_countSeenOf_24 : decode cX2_countSeenOf 24 = .ok (.goto 4, 3) := by decide +kernel
theorem dX2_countSeenOf_27 : decode cX2_countSeenOf 27 = .ok (.iconst 0, 1) := by decide +kernel
theorem dX2_countSeenOf_28 : decode cX2_countSeenOf 28 = .ok (.iadd, 1) := by decide +kernel
theorem dX2_countSeenOf_29 : decode cX2_countSeenOf 29 = .ok (.istore_n 2, 1) := by decide +kernel
theorem dX2_countSeenOf_30 : decode cX2_countSeenOf 30 = .ok (.iload_n 2, 1) := by decide +kernel
theorem dX2_countSeenOf_31 : decode cX2_countSeenOf 31 = .ok (.aload_n 0, 1) := by decide +kernel
theorem dX2_countSeenOf_32 : decode cX2_countSeenOf 32 = .ok (.getfield 18, 3) := by decide +kernel
theorem dX2_countSeenOf_35 : decode cX2_countSeenOf 35 = .ok (.iload_n 1, 1) := by decide +kernel
theorem dX2_countSeenOf_36 : decode cX2_countSeenOf 36 = .ok (.invokevirtual 54, 3) := by decide +kernel
theorem dX2_countSeenOf_39 : decode cX2_countSeenOf 39 = .ok (.ifCond .le 17, 3) := by decide +kernel
theorem dX2_countSeenOf_42 : decode cX2_countSeenOf 42 = .ok (.aload_n 0, 1) := by decide +kernel
theorem dX2_countSeenOf_43 : decode cX2_countSeenOf 43 = .ok (.iload_n 1, 1) := by decide +kernel
theorem dX2_countSeenOf_44 : decode cX2_countSeenOf 44 = .ok (.iconst 1, 1) := by decide +kernel
theorem dX2_countSeenOf_45 : decode cX2_countSeenOf 45 = .ok (.isub, 1) := by decide +kernel
theorem dX2_countSeenOf_46 : decode cX2_countSeenOf 46 = .ok (.invokevirtual 47, 3) := by decide +kernel
theorem dX2_countSeenOf_49 : decode cX2_countSeenOf 49 = .ok (.ifCond .eq 7, 3) := by decide +kernel
theorem dX2_countSeenOf_52 : decode cX2_countSeenOf 52 = .ok (.iconst 1, 1) := by decide +kernel
theorem dX2_countSeenOf_53 : decode cX2_countSeenOf 53 = .ok (.goto 4, 3) := by decide +kernel
theorem dX2_countSeenOf_56 : decode cX2_countSeenOf 56 = .ok (.iconst 0, 1) := by decide +kernel
theorem dX2_countSeenOf_57 : decode cX2_countSeenOf 57 = .ok (.iadd, 1) := by decide +kernel
theorem dX2_countSeenOf_58 : decode cX2_countSeenOf 58 = .ok (.istore_n 2, 1) := by decide +kernel
theorem dX2_countSeenOf_59 : decode cX2_countSeenOf 59 = .ok (.iload_n 2, 1) := by decide +kernel
theorem dX2_countSeenOf_60 : decode cX2_countSeenOf 60 = .ok (.iload_n 1, 1) := by decide +kernel
theorem dX2_countSeenOf_61 : decode cX2_countSeenOf 61 = .ok (.aload_n 0, 1) := by decide +kernel
theorem dX2_countSeenOf_62 : decode cX2_countSeenOf 62 = .ok (.getfield 18, 3) := by decide +kernel
theorem dX2_countSeenOf_65 : decode cX2_countSeenOf 65 = .ok (.getfield 58, 3) := by decide +kernel
theorem dX2_countSeenOf_68 : decode cX2_countSeenOf 68 = .ok (.if_icmp .lt 23, 3) := by decide +kernel
theorem dX2_countSeenOf_71 : decode cX2_countSeenOf 71 = .ok (.aload_n 0, 1) := by decide +kernel
theorem dX2_countSeenOf_72 : decode cX2_countSeenOf 72 = .ok (.iload_n 1, 1) := by decide +kernel
theorem dX2_countSeenOf_73 : decode cX2_countSeenOf 73 = .ok (.aload_n 0, 1) := by decide +kernel
theorem dX2_countSeenOf_74 : decode cX2_countSeenOf 74 = .ok (.getfield 18, 3) := by decide +kernel
theorem dX2_countSeenOf_77 : decode cX2_countSeenOf 77 = .ok (.getfield 58, 3) := by decide +kernel
theorem dX2_countSeenOf_80 : decode cX2_countSeenOf 80 = .ok (.isub, 1) := by decide +kernel
theorem dX2_countSeenOf_81 : decode cX2_countSeenOf 81 = .ok (.invokevirtual 51, 3) := by decide +kernel
theorem dX2_countSeenOf_84 : decode cX2_countSeenOf 84 = .ok (.ifCond .eq 7, 3) := by decide +kernel
theorem dX2_countSeenOf_87 : decode cX2_countSeenOf 87 = .ok (.iconst 1, 1) := by decide +kernel
theorem dX2_countSeenOf_88 : decode cX2_countSeenOf 88 = .ok (.goto 4, 3) := by decide +kernel
theorem dX2_countSeenOf_91 : decode cX2_countSeenOf 91 = .ok (.iconst 0, 1) := by decide +kernel
theorem dX2_countSeenOf_92 : decode cX2_countSeenOf 92 = .ok (.iadd, 1) := by decide +kernel
theorem dX2_countSeenOf_93 : decode cX2_countSeenOf 93 = .ok (.istore_n 2, 1) := by decide +kernel
theorem dX2_countSeenOf_94 : decode cX2_countSeenOf 94 = .ok (.iload_n 2, 1) := by decide +kernel
theorem dX2_countSeenOf_95 : decode cX2_countSeenOf 95 = .ok (.ireturn, 1) := by decide +kernel
set_option maxRecDepth 20000 in
theorem ggX2_isAnySeen_X2_isSeenToRight : GoodIn wsX2_isAnySeen wsX2_isSeenToRight := goodIn_r _ [7, 1, 8, 9, 10, 11, 12, 13, 14, 15, 16, 17, 6, 18, 19, 20, 21, 22, 23, 24, 25, 26, 27, 28, 29, 30, 35, 36, 37, 38, 39, 40, 41, 42, 43, 44, 45, 46, 47, 48] (by decide +kernel) (by decide +kernel)
set_option maxRecDepth 20000 in
theorem gX2_isAnySeen_X2_isSeenToRight : GoodIn wsX2_isAnySeen (wsV RX2 47 RX2 yX2_isSeenToRight wsX2_isSeenToRight) := goodIn_app (goodIn_of _ (by decide +kernel)) ggX2_isAnySeen_X2_isSeenToRight
set_option maxRecDepth 20000 in
theorem ggX2_isAnySeen_X2_isSeenBelow : GoodIn wsX2_isAnySeen wsX2_isSeenBelow := goodIn_r _ [34, 1, 8, 2, 15, 16, 17, 6, 18, 19, 20, 21, 22, 23, 24, 25, 26, 27, 28, 12, 29, 30, 35, 36, 37, 38, 39, 40, 41, 42, 43, 44, 45, 46, 47, 48] (by decide +kernel) (by decide +kernel)
set_option maxRecDepth 20000 in
theorem gX2_isAnySeen_X2_isSeenBelow : GoodIn wsX2_isAnySeen (wsV RX2 51 RX2 yX2_isSeenBelow wsX2_isSeenBelow) := goodIn_app (goodIn_of _ (by decide +kernel)) ggX2_isAnySeen_X2_isSeenBelow
theorem dX2_isAnySeen_0 : decode cX2_isAnySeen 0 = .ok (.iconst 0, 1) := by decide +kernel
theorem dX2_isAnySeen_1 : decode cX2_isAnySeen 1 = .ok (.istore_n 1, 1) := by decide +kernel
theorem dX2_isAnySeen_2 : decode cX2_isAnySeen 2 = .ok (.iload_n 1, 1) := by decide +kernel
theorem dX2_isAnySeen_3 : decode cX2_isAnySeen 3 = .ok (.aload_n 0, 1) := by decide +kernel
theorem dX2_isAnySeen_4 : decode cX2_isAnySeen 4 = .ok (.getfield 18, 3) := by decide +kernel
theorem dX2_isAnySeen_7 : decode cX2_isAnySeen 7 = .ok (.getfield 22, 3) := by decide +kernel
theorem dX2_isAnySeen_10 : decode cX2_isAnySeen 10 = .ok (.if_icmp .ge 27, 3) := by decide +kernel
theorem dX2_isAnySeen_13 : decode cX2_isAnySeen 13 = .ok (.aload_n 0, 1) := by decide +kernel
theorem dX2_isAnySeen_14 : decode cX2_isAnySeen 14 = .ok (.iload_n 1, 1) := by decide +kernel
theorem dX2_isAnySeen_15 : decode cX2_isAnySeen 15 = .ok (.invokevirtual 47, 3) := by decide +kernel
theorem dX2_isAnySeen_18 : decode cX2_isAnySeen 18 = .ok (.ifCond .ne 11, 3) := by decide +kernel
theorem dX2_isAnySeen_21 : decode cX2_isAnySeen 21 = .ok (.aload_n 0, 1) := by decide +kernel
theorem dX2_isAnySeen_22 : decode cX2_isAnySeen 22 = .ok (.iload_n 1, 1) := by decide +kernel
theorem dX2_isAnySeen_23 : decode cX2_isAnySeen 23 = .ok (.invokevirtual 51, 3) := by decide +kernel
theorem dX2_isAnySeen_26 : decode cX2_isAnySeen 26 = .ok (.ifCond .eq 5, 3) := by decide +kernel
theorem dX2_isAnySeen_29 : decode cX2_isAnySeen 29 = .ok (.iconst 1, 1) := by decide +kernel
theorem dX2_isAnySeen_30 : decode cX2_isAnySeen 30 = .ok (.ireturn, 1) := by decide +kernel
theorem dX2_isAnySeen_31 : decode cX2_isAnySeen 31 = .ok (.iinc 1 1, 3) := by decide +kernel
theorem dX2_isAnySeen_34 : decode cX2_isAnySeen 34 = .ok (.goto (-32), 3) := by decide +kernel
theorem dX2_isAnySeen_37 : decode cX2_isAnySeen 37 = .ok (.iconst 0, 1) := by decide +kernel
theorem dX2_isAnySeen_38 : decode cX2_isAnySeen 38 = .ok (.ireturn, 1) := by decide +kernel
set_option maxRecDepth 20000 in
theorem ggX2_isSeenToRight_X6_columnOf : GoodIn wsX2_isSeenToRight wsX6_columnOf := goodIn_r _ [7, 8, 29, 30, 31, 32, 33, 34, 35, 36, 37, 38, 39] (by decide +kernel) (by decide +kernel)
set_option maxRecDepth 20000 in
theorem gX2_isSeenToRight_X6_columnOf : GoodIn wsX2_isSeenToRight (wsV RX2 54 RX6 yX6_columnOf wsX6_columnOf) := goodIn_app (goodIn_of _ (by decide +kernel)) ggX2_isSeenToRight_X6_columnOf
set_option maxRecDepth 20000 in
theorem ggX2_isSeenToRight_X2_isSeenBetween : GoodIn wsX2_isSeenToRight wsX2_isSeenBetween := goodIn_r _ [13, 14, 1, 15, 16, 17, 18, 19, 20, 21, 22, 23, 6, 24, 25, 26, 27, 28, 29, 30, 31, 32, 33, 34, 35, 36, 37, 38, 39] (by decide +kernel) (by decide +kernel)
set_option maxRecDepth 20000 in
theorem gX2_isSeenToRight_X2_isSeenBetween : GoodIn wsX2_isSeenToRight (wsV RX2 61 RX2 yX2_isSeenBetween wsX2_isSeenBetween) := goodIn_app (goodIn_of _ (by decide +kernel)) ggX2_isSeenToRight_X2_isSeenBetween
theorem dX2_isSeenToRight_0 : decode cX2_isSeenToRight 0 = .ok (.aload_n 0, 1) := by decide +kernel
theorem dX2_isSeenToRight_1 : decode cX2_isSeenToRight 1 = .ok (.getfield 18, 3) := by decide +kernel
theorem dX2_isSeenToRight_4 : decode cX2_isSeenToRight 4 = .ok (.iload_n 1, 1) := by decide +kernel
theorem dX2_isSeenToRight_5 : decode cX2_isSeenToRight 5 = .ok (.invokevirtual 54, 3) := by decide +kernel
theorem dX2_isSeenToRight_8 : decode cX2_isSeenToRight 8 = .ok (.iconst 1, 1) := by decide +kernel
theorem dX2_isSeenToRight_9 : decode cX2_isSeenToRight 9 = .ok (.iadd, 1) := by decide +kernel
theorem dX2_isSeenToRight_10 : decode cX2_isSeenToRight 10 = .ok (.aload_n 0, 1) := by decide +kernel
theorem dX2_isSeenToRight_11 : decode cX2_isSeenToRight 11 = .ok (.getfield 18, 3) := by decide +kernel
theorem dX2_isSeenToRight_14 : decode cX2_isSeenToRight 14 = .ok (.getfield 58, 3) := by decide +kernel
theorem dX2_isSeenToRight_17 : decode cX2_isSeenToRight 17 = .ok (.if_icmp .ge 18, 3) := by decide +kernel
theorem dX2_isSeenToRight_20 : decode cX2_isSeenToRight 20 = .ok (.aload_n 0, 1) := by decide +kernel
theorem dX2_isSeenToRight_21 : decode cX2_isSeenToRight 21 = .ok (.iload_n 1, 1) := by decide +kernel
theorem dX2_isSeenToRight_22 : decode cX2_isSeenToRight 22 = .ok (.iload_n 1, 1) := by decide +kernel
theorem dX2_isSeenToRight_23 : decode cX2_isSeenToRight 23 = .ok (.iconst 1, 1) := by decide +kernel
theorem dX2_isSeenToRight_24 : decode cX2_isSeenToRight 24 = .ok (.iadd, 1) := by decide +kernel
theorem dX2_isSeenToRight_25 : decode cX2_isSeenToRight 25 = .ok (.invokevirtual 61, 3) := by decide +kernel
theorem dX2_isSeenToRight_28 : decode cX2_isSeenToRight 28 = .ok (.ifCond .eq 7, 3) := by decide +kernel
theorem dX2_isSeenToRight_31 : decode cX2_isSeenToRight 31 = .ok (.iconst 1, 1) := by decide +kernel
theorem dX2_isSeenToRight_32 : decode cX2_isSeenToRight 32 = .ok (.goto 4, 3) := by decide +kernel
theorem dX2_isSeenToRight_35 : decode cX2_isSeenToRight 35 = .ok (.iconst 0, 1) := by decide +kernel
theorem dX2_isSeenToRight_36 : decode cX2_isSeenToRight 36 = .ok (.ireturn, 1) := by decide +kernel
set_option maxRecDepth 20000 in
theorem ggX2_isSeenBelow_X2_isSeenBetween : GoodIn wsX2_isSeenBelow wsX2_isSeenBetween := goodIn_r _ [8, 9, 1, 10, 11, 12, 13, 14, 15, 16, 17, 18, 19, 20, 21, 22, 23, 24, 25, 26, 27, 28, 29, 30, 31, 32, 33, 34, 35] (by decide +kernel) (by decide +kernel)
set_option maxRecDepth 20000 in
theorem gX2_isSeenBelow_X2_isSeenBetween : GoodIn wsX2_isSeenBelow (wsV RX2 61 RX2 yX2_isSeenBetween wsX2_isSeenBetween) := goodIn_app (goodIn_of _ (by decide +kernel)) ggX2_isSeenBelow_X2_isSeenBetween
theorem dX2_isSeenBelow_0 : decode cX2_isSeenBelow 0 = .ok (.iload_n 1, 1) := by decide +kernel
theorem dX2_isSeenBelow_1 : decode cX2_isSeenBelow 1 = .ok (.aload_n 0, 1) := by decide +kernel
theorem dX2_isSeenBelow_2 : decode cX2_isSeenBelow 2 = .ok (.getfield 18, 3) := by decide +kernel
theorem dX2_isSeenBelow_5 : decode cX2_isSeenBelow 5 = .ok (.getfield 58, 3) := by decide +kernel
theorem dX2_isSeenBelow_8 : decode cX2_isSeenBelow 8 = .ok (.iadd, 1) := by decide +kernel
theorem dX2_isSeenBelow_9 : decode cX2_isSeenBelow 9 = .ok (.aload_n 0, 1) := by decide +kernel
theorem dX2_isSeenBelow_10 : decode cX2_isSeenBelow 10 = .ok (.getfield 18, 3) := by decide +kernel
theorem dX2_isSeenBelow_13 : decode cX2_isSeenBelow 13 = .ok (.getfield 22, 3) := by decide +kernel
theorem dX2_isSeenBelow_16 : decode cX2_isSeenBelow 16 = .ok (.if_icmp .ge 24, 3) := by decide +kernel
theorem dX2_isSeenBelow_19 : decode cX2_isSeenBelow 19 = .ok (.aload_n 0, 1) := by decide +kernel
theorem dX2_isSeenBelow_20 : decode cX2_isSeenBelow 20 = .ok (.iload_n 1, 1) := by decide +kernel
theorem dX2_isSeenBelow_21 : decode cX2_isSeenBelow 21 = .ok (.iload_n 1, 1) := by decide +kernel
theorem dX2_isSeenBelow_22 : decode cX2_isSeenBelow 22 = .ok (.aload_n 0, 1) := by decide +kernel
theorem dX2_isSeenBelow_23 : decode cX2_isSeenBelow 23 = .ok (.getfield 18, 3) := by decide +kernel
theorem dX2_isSeenBelow_26 : decode cX2_isSeenBelow 26 = .ok (.getfield 58, 3) := by decide +kernel
theorem dX2_isSeenBelow_29 : decode cX2_isSeenBelow 29 = .ok (.iadd, 1) := by decide +kernel
theorem dX2_isSeenBelow_30 : decode cX2_isSeenBelow 30 = .ok (.invokevirtual 61, 3) := by decide +kernel
theorem dX2_isSeenBelow_33 : decode cX2_isSeenBelow 33 = .ok (.ifCond .eq 7, 3) := by decide +kernel
theorem dX2_isSeenBelow_36 : decode cX2_isSeenBelow 36 = .ok (.iconst 1, 1) := by decide +kernel
theorem dX2_isSeenBelow_37 : decode cX2_isSeenBelow 37 = .ok (.goto 4, 3) := by decide +kernel
theorem dX2_isSeenBelow_40 : decode cX2_isSeenBelow 40 = .ok (.iconst 0, 1) := by decide +kernel
theorem dX2_isSeenBelow_41 : decode cX2_isSeenBelow 41 = .ok (.ireturn, 1) := by decide +kernel
set_option maxRecDepth 20000 in
theorem ggX2_isSeenBetween_X6_views : GoodIn wsX2_isSeenBetween wsX6_views := goodIn_r _ [13, 14, 18, 19, 20, 21, 22, 23, 24, 25, 26, 27, 28] (by decide +kernel) (by decide +kernel)
set_option maxRecDepth 20000 in
theorem gX2_isSeenBetween_X6_views : GoodIn wsX2_isSeenBetween (wsV RX2 28 RX6 yX6_views wsX6_views) := goodIn_app (goodIn_of _ (by decide +kernel)) ggX2_isSeenBetween_X6_views
theorem dX2_isSeenBetween_0 : decode cX2_isSeenBetween 0 = .ok (.aload_n 0, 1) := by decide +kernel
theorem dX2_isSeenBetween_1 : decode cX2_isSeenBetween 1 = .ok (.getfield 15, 3) := by decide +kernel
theorem dX2_isSeenBetween_4 : decode cX2_isSeenBetween 4 = .ok (.iload_n 1, 1) := by decide +kernel
theorem dX2_isSeenBetween_5 : decode cX2_isSeenBetween 5 = .ok (.iaload, 1) := by decide +kernel
theorem dX2_isSeenBetween_6 : decode cX2_isSeenBetween 6 = .ok (.bipush 8, 2) := by decide +kernel
theorem dX2_isSeenBetween_8 : decode cX2_isSeenBetween 8 = .ok (.imul, 1) := by decide +kernel
theorem dX2_isSeenBetween_9 : decode cX2_isSeenBetween 9 = .ok (.istore_n 3, 1) := by decide +kernel
theorem dX2_isSeenBetween_10 : decode cX2_isSeenBetween 10 = .ok (.aload_n 0, 1) := by decide +kernel
theorem dX2_isSeenBetween_11 : decode cX2_isSeenBetween 11 = .ok (.getfield 15, 3) := by decide +kernel
theorem dX2_isSeenBetween_14 : decode cX2_isSeenBetween 14 = .ok (.iload_n 2, 1) := by decide +kernel
theorem dX2_isSeenBetween_15 : decode cX2_isSeenBetween 15 = .ok (.iaload, 1) := by decide +kernel
theorem dX2_isSeenBetween_16 : decode cX2_isSeenBetween 16 = .ok (.bipush 8, 2) := by decide +kernel
theorem dX2_isSeenBetween_18 : decode cX2_isSeenBetween 18 = .ok (.imul, 1) := by decide +kernel
theorem dX2_isSeenBetween_19 : decode cX2_isSeenBetween 19 = .ok (.istore 4, 2) := by decide +kernel
theorem dX2_isSeenBetween_21 : decode cX2_isSeenBetween 21 = .ok (.iconst 0, 1) := by decide +kernel
theorem dX2_isSeenBetween_22 : decode cX2_isSeenBetween 22 = .ok (.istore 5, 2) := by decide +kernel
theorem dX2_isSeenBetween_24 : decode cX2_isSeenBetween 24 = .ok (.iload 5, 2) := by decide +kernel
theorem dX2_isSeenBetween_26 : decode cX2_isSeenBetween 26 = .ok (.aload_n 0, 1) := by decide +kernel
theorem dX2_isSeenBetween_27 : decode cX2_isSeenBetween 27 = .ok (.getfield 18, 3) := by decide +kernel
theorem dX2_isSeenBetween_30 : decode cX2_isSeenBetween 30 = .ok (.invokevirtual 28, 3) := by decide +kernel
theorem dX2_isSeenBetween_33 : decode cX2_isSeenBetween 33 = .ok (.if_icmp .ge 44, 3) := by decide +kernel
theorem dX2_isSeenBetween_36 : decode cX2_isSeenBetween 36 = .ok (.aload_n 0, 1) := by decide +kernel
theorem dX2_isSeenBetween_37 : decode cX2_isSeenBetween 37 = .ok (.getfield 9, 3) := by decide +kernel
theorem dX2_isSeenBetween_40 : decode cX2_isSeenBetween 40 = .ok (.iload_n 3, 1) := by decide +kernel
theorem dX2_isSeenBetween_41 : decode cX2_isSeenBetween 41 = .ok (.iload 5, 2) := by decide +kernel
theorem dX2_isSeenBetween_43 : decode cX2_isSeenBetween 43 = .ok (.iadd, 1) := by decide +kernel
theorem dX2_isSeenBetween_44 : decode cX2_isSeenBetween 44 = .ok (.iaload, 1) := by decide +kernel
theorem dX2_isSeenBetween_45 : decode cX2_isSeenBetween 45 = .ok (.aload_n 0, 1) := by decide +kernel
theorem dX2_isSeenBetween_46 : decode cX2_isSeenBetween 46 = .ok (.getfield 9, 3) := by decide +kernel
theorem dX2_isSeenBetween_49 : decode cX2_isSeenBetween 49 = .ok (.iload 4, 2) := by decide +kernel
theorem dX2_isSeenBetween_51 : decode cX2_isSeenBetween 51 = .ok (.iload 5, 2) := by decide +kernel
theorem dX2_isSeenBetween_53 : decode cX2_isSeenBetween 53 = .ok (.iadd, 1) := by decide +kernel
theorem dX2_isSeenBetween_54 : decode cX2_isSeenBetween 54 = .ok (.iaload, 1) := by decide +kernel
theorem dX2_isSeenBetween_55 : decode cX2_isSeenBetween 55 = .ok (.isub, 1) := by decide +kernel
theorem dX2_isSeenBetween_56 : decode cX2_isSeenBetween 56 = .ok (.invokestatic 65, 3) := by decide +kernel
theorem dX2_isSeenBetween_59 : decode cX2_isSeenBetween 59 = .ok (.aload_n 0, 1) := by decide +kernel
theorem dX2_isSeenBetween_60 : decode cX2_isSeenBetween 60 = .ok (.getfield 18, 3) := by decide +kernel
theorem dX2_isSeenBetween_63 : decode cX2_isSeenBetween 63 = .ok (.getfield 70, 3) := by decide +kernel
theorem dX2_isSeenBetween_66 : decode cX2_isSeenBetween 66 = .ok (.if_icmp .lt 5, 3) := by decide +kernel
theorem dX2_isSeenBetween_69 : decode cX2_isSeenBetween 69 = .ok (.iconst 1, 1) := by decide +kernel
theorem dX2_isSeenBetween_70 : decode cX2_isSeenBetween 70 = .ok (.ireturn, 1) := by decide +kernel
theorem dX2_isSeenBetween_71 : decode cX2_isSeenBetween 71 = .ok (.iinc 5 1, 3) := by decide +kernel
theorem dX2_isSeenBetween_74 : decode cX2_isSeenBetween 74 = .ok (.goto (-50), 3) := by decide +kernel
theorem dX2_isSeenBetween_77 : decode cX2_isSeenBetween 77 = .ok (.iconst 0, 1) := by decide +kernel
theorem dX2_isSeenBetween_78 : decode cX2_isSeenBetween 78 = .ok (.ireturn, 1) := by decide +kernel
set_option maxRecDepth 20000 in
theorem ggX3_init_X1_init : GoodIn wsX3_init wsX1_init := goodIn_r _ [14, 15, 2, 3, 4, 16, 24, 25] (by decide +kernel) (by decide +kernel)
set_option maxRecDepth 20000 in
theorem gX3_init_X1_init_n17 : GoodIn wsX3_init (wsX1_init) := ggX3_init_X1_init
theorem dX3_init_0 : decode cX3_init 0 = .ok (.aload_n 0, 1) := by decide +kernel
theorem dX3_init_1 : decode cX3_init 1 = .ok (.invokespecial 3, 3) := by decide +kernel
theorem dX3_init_4 : decode cX3_init 4 = .ok (.aload_n 0, 1) := by decide +kernel
theorem dX3_init_5 : decode cX3_init 5 = .ok (.iconst 4, 1) := by decide +kernel
theorem dX3_init_6 : decode cX3_init 6 = .ok (.newarray .int, 2) := by decide +kernel
theorem dX3_init_8 : decode cX3_init 8 = .ok (.putfield 9, 3) := by decide +kernel
theorem dX3_init_11 : decode cX3_init 11 = .ok (.aload_n 0, 1) := by decide +kernel
theorem dX3_init_12 : decode cX3_init 12 = .ok (.new 15, 3) := by decide +kernel
theorem dX3_init_15 : decode cX3_init 15 = .ok (.dup, 1) := by decide +kernel
theorem dX3_init_16 : decode cX3_init 16 = .ok (.invokespecial 17, 3) := by decide +kernel
theorem dX3_init_19 : decode cX3_init 19 = .ok (.putfield 18, 3) := by decide +kernel
theorem dX3_init_22 : decode cX3_init 22 = .ok (.aload_n 0, 1) := by decide +kernel
theorem dX3_init_23 : decode cX3_init 23 = .ok (.bipush 8, 2) := by decide +kernel
theorem dX3_init_25 : decode cX3_init 25 = .ok (.newarray .int, 2) := by decide +kernel
theorem dX3_init_27 : decode cX3_init 27 = .ok (.putfield 22, 3) := by decide +kernel
theorem dX3_init_30 : decode cX3_init 30 = .ok (.aload_n 0, 1) := by decide +kernel
theorem dX3_init_31 : decode cX3_init 31 = .ok (.iconst 4, 1) := by decide +kernel
theorem dX3_init_32 : decode cX3_init 32 = .ok (.newarray .int, 2) := by decide +kernel
theorem dX3_init_34 : decode cX3_init 34 = .ok (.putfield 25, 3) := by decide +kernel
theorem dX3_init_37 : decode cX3_init 37 = .ok (.aload_n 0, 1) := by decide +kernel
theorem dX3_init_38 : decode cX3_init 38 = .ok (.aload_n 1, 1) := by decide +kernel
theorem dX3_init_39 : decode cX3_init 39 = .ok (.putfield 28, 3) := by decide +kernel
theorem dX3_init_42 : decode cX3_init 42 = .ok (.return_, 1) := by decide +kernel
theorem dX3_pour_0 : decode cX3_pour 0 = .ok (.aload_n 0, 1) := by decide +kernel
theorem dX3_pour_1 : decode cX3_pour 1 = .ok (.getfield 9, 3) := by decide +kernel
theorem dX3_pour_4 : decode cX3_pour 4 = .ok (.iconst 0, 1) := by decide +kernel
theorem dX3_pour_5 : decode cX3_pour 5 = .ok (.iload_n 1, 1) := by decide +kernel
theorem dX3_pour_6 : decode cX3_pour 6 = .ok (.iastore, 1) := by decide +kernel
theorem dX3_pour_7 : decode cX3_pour 7 = .ok (.aload_n 0, 1) := by decide +kernel
theorem dX3_pour_8 : decode cX3_pour 8 = .ok (.getfield 9, 3) := by decide +kernel
theorem dX3_pour_11 : decode cX3_pour 11 = .ok (.iconst 1, 1) := by decide +kernel
theorem dX3_pour_12 : decode cX3_pour 12 = .ok (.iload_n 2, 1) := by decide +kernel
theorem dX3_pour_13 : decode cX3_pour 13 = .ok (.iastore, 1) := by decide +kernel
theorem dX3_pour_14 : decode cX3_pour 14 = .ok (.aload_n 0, 1) := by decide +kernel
theorem dX3_pour_15 : decode cX3_pour 15 = .ok (.getfield 9, 3) := by decide +kernel
theorem dX3_pour_18 : decode cX3_pour 18 = .ok (.iconst 2, 1) := by decide +kernel
theorem dX3_pour_19 : decode cX3_pour 19 = .ok (.iload_n 3, 1) := by decide +kernel
theorem dX3_pour_20 : decode cX3_pour 20 = .ok (.iastore, 1) := by decide +kernel
theorem dX3_pour_21 : decode cX3_pour 21 = .ok (.aload_n 0, 1) := by decide +kernel
theorem dX3_pour_22 : decode cX3_pour 22 = .ok (.getfield 9, 3) := by decide +kernel
theorem dX3_pour_25 : decode cX3_pour 25 = .ok (.iconst 3, 1) := by decide +kernel
theorem dX3_pour_26 : decode cX3_pour 26 = .ok (.iload 4, 2) := by decide +kernel
theorem dX3_pour_28 : decode cX3_pour 28 = .ok (.iastore, 1) := by decide +kernel
theorem dX3_pour_29 : decode cX3_pour 29 = .ok (.return_, 1) := by decide +kernel
set_option maxRecDepth 20000 in
theorem ggX3_isMix_X7_isWithin : GoodIn wsX3_isMix wsX7_isWithin := goodIn_r _ [5] (by decide +kernel) (by decide +kernel)
set_option maxRecDepth 20000 in
theorem gX3_isMix_X7_isWithin_n32 : GoodIn wsX3_isMix (wsX7_isWithin) := ggX3_isMix_X7_isWithin
set_option maxRecDepth 20000 in
theorem ggX3_isMix_X6_hasCoat : GoodIn wsX3_isMix wsX6_hasCoat := goodIn_r _ [10, 11, 19, 20, 21, 22, 23, 24, 25, 26, 27, 28, 29] (by decide +kernel) (by decide +kernel)
set_option maxRecDepth 20000 in
theorem gX3_isMix_X6_hasCoat : GoodIn wsX3_isMix (wsV RX3 36 RX6 yX6_hasCoat wsX6_hasCoat) := goodIn_app (goodIn_of _ (by decide +kernel)) ggX3_isMix_X6_hasCoat
theorem dX3_isMix_0 : decode cX3_isMix 0 = .ok (.iconst 0, 1) := by decide +kernel
theorem dX3_isMix_1 : decode cX3_isMix 1 = .ok (.istore_n 1, 1) := by decide +kernel
theorem dX3_isMix_2 : decode cX3_isMix 2 = .ok (.iconst 0, 1) := by decide +kernel
theorem dX3_isMix_3 : decode cX3_isMix 3 = .ok (.istore_n 2, 1) := by decide +kernel
theorem dX3_isMix_4 : decode cX3_isMix 4 = .ok (.iload_n 2, 1) := by decide +kernel
theorem dX3_isMix_5 : decode cX3_isMix 5 = .ok (.iconst 4, 1) := by decide +kernel
theorem dX3_isMix_6 : decode cX3_isMix 6 = .ok (.if_icmp .ge 55, 3) := by decide +kernel
theorem dX3_isMix_9 : decode cX3_isMix 9 = .ok (.aload_n 0, 1) := by decide +kernel
theorem dX3_isMix_10 : decode cX3_isMix 10 = .ok (.getfield 9, 3) := by decide +kernel
theorem dX3_isMix_13 : decode cX3_isMix 13 = .ok (.iload_n 2, 1) := by decide +kernel
theorem dX3_isMix_14 : decode cX3_isMix 14 = .ok (.iaload, 1) := by decide +kernel
theorem dX3_isMix_15 : decode cX3_isMix 15 = .ok (.iconst 0, 1) := by decide +kernel
theorem dX3_isMix_16 : decode cX3_isMix 16 = .ok (.bipush 9, 2) := by decide +kernel
theorem dX3_isMix_18 : decode cX3_isMix 18 = .ok (.invokestatic 32, 3) := by decide +kernel
theorem dX3_isMix_21 : decode cX3_isMix 21 = .ok (.ifCond .eq 23, 3) := by decide +kernel
theorem dX3_isMix_24 : decode cX3_isMix 24 = .ok (.aload_n 0, 1) := by decide +kernel
theorem dX3_isMix_25 : decode cX3_isMix 25 = .ok (.getfield 9, 3) := by decide +kernel
theorem dX3_isMix_28 : decode cX3_isMix 28 = .ok (.iload_n 2, 1) := by decide +kernel
theorem dX3_isMix_29 : decode cX3_isMix 29 = .ok (.iaload, 1) := by decide +kernel
theorem dX3_isMix_30 : decode cX3_isMix 30 = .ok (.ifCond .le 16, 3) := by decide +kernel
theorem dX3_isMix_33 : decode cX3_isMix 33 = .ok (.aload_n 0, 1) := by decide +kernel
theorem dX3_isMix_34 : decode cX3_isMix 34 = .ok (.getfield 28, 3) := by decide +kernel
theorem dX3_isMix_37 : decode cX3_isMix 37 = .ok (.iload_n 2, 1) := by decide +kernel
theorem dX3_isMix_38 : decode cX3_isMix 38 = .ok (.invokevirtual 36, 3) := by decide +kernel
theorem dX3_isMix_41 : decode cX3_isMix 41 = .ok (.ifCond .ne 5, 3) := by decide +kernel
theorem dX3_isMix_44 : decode cX3_isMix 44 = .ok (.iconst 0, 1) := by decide +kernel
theorem dX3_isMix_45 : decode cX3_isMix 45 = .ok (.ireturn, 1) := by decide +kernel
theorem dX3_isMix_46 : decode cX3_isMix 46 = .ok (.iload_n 1, 1) := by decide +kernel
theorem dX3_isMix_47 : decode cX3_isMix 47 = .ok (.aload_n 0, 1) := by decide +kernel
theorem dX3_isMix_48 : decode cX3_isMix 48 = .ok (.getfield 9, 3) := by decide +kernel
theorem dX3_isMix_51 : decode cX3_isMix 51 = .ok (.iload_n 2, 1) := by decide +kernel
theorem dX3_isMix_52 : decode cX3_isMix 52 = .ok (.iaload, 1) := by decide +kernel
theorem dX3_isMix_53 : decode cX3_isMix 53 = .ok (.iadd, 1) := by decide +kernel
theorem dX3_isMix_54 : decode cX3_isMix 54 = .ok (.istore_n 1, 1) := by decide +kernel
theorem dX3_isMix_55 : decode cX3_isMix 55 = .ok (.iinc 2 1, 3) := by decide +kernel
theorem dX3_isMix_58 : decode cX3_isMix 58 = .ok (.goto (-54), 3) := by decide +kernel
theorem dX3_isMix_61 : decode cX3_isMix 61 = .ok (.iload_n 1, 1) := by decide +kernel
theorem dX3_isMix_62 : decode cX3_isMix 62 = .ok (.iconst 1, 1) := by decide +kernel
theorem dX3_isMix_63 : decode cX3_isMix 63 = .ok (.bipush 12, 2) := by decide +kernel
theorem dX3_isMix_65 : decode cX3_isMix 65 = .ok (.invokestatic 32, 3) := by decide +kernel
theorem dX3_isMix_68 : decode cX3_isMix 68 = .ok (.ireturn, 1) := by decide +kernel
theorem dX3_sumOfDrops_0 : decode cX3_sumOfDrops 0 = .ok (.aload_n 0, 1) := by decide +kernel
theorem dX3_sumOfDrops_1 : decode cX3_sumOfDrops 1 = .ok (.getfield 9, 3) := by decide +kernel
theorem dX3_sumOfDrops_4 : decode cX3_sumOfDrops 4 = .ok (.iconst 0, 1) := by decide +kernel
theorem dX3_sumOfDrops_5 : decode cX3_sumOfDrops 5 = .ok (.iaload, 1) := by decide +kernel
theorem dX3_sumOfDrops_6 : decode cX3_sumOfDrops 6 = .ok (.aload_n 0, 1) := by decide +kernel
theorem dX3_sumOfDrops_7 : decode cX3_sumOfDrops 7 = .ok (.getfield 9, 3) := by decide +kernel
theorem dX3_sumOfDrops_10 : decode cX3_sumOfDrops 10 = .ok (.iconst 1, 1) := by decide +kernel
theorem dX3_sumOfDrops_11 : decode cX3_sumOfDrops 11 = .ok (.iaload, 1) := by decide +kernel
theorem dX3_sumOfDrops_12 : decode cX3_sumOfDrops 12 = .ok (.iadd, 1) := by decide +kernel
theorem dX3_sumOfDrops_13 : decode cX3_sumOfDrops 13 = .ok (.aload_n 0, 1) := by decide +kernel
theorem dX3_sumOfDrops_14 : decode cX3_sumOfDrops 14 = .ok (.getfield 9, 3) := by decide +kernel
theorem dX3_sumOfDrops_17 : decode cX3_sumOfDrops 17 = .ok (.iconst 2, 1) := by decide +kernel
theorem dX3_sumOfDrops_18 : decode cX3_sumOfDrops 18 = .ok (.iaload, 1) := by decide +kernel
theorem dX3_sumOfDrops_19 : decode cX3_sumOfDrops 19 = .ok (.iadd, 1) := by decide +kernel
theorem dX3_sumOfDrops_20 : decode cX3_sumOfDrops 20 = .ok (.aload_n 0, 1) := by decide +kernel
theorem dX3_sumOfDrops_21 : decode cX3_sumOfDrops 21 = .ok (.getfield 9, 3) := by decide +kernel
theorem dX3_sumOfDrops_24 : decode cX3_sumOfDrops 24 = .ok (.iconst 3, 1) := by decide +kernel
theorem dX3_sumOfDrops_25 : decode cX3_sumOfDrops 25 = .ok (.iaload, 1) := by decide +kernel
theorem dX3_sumOfDrops_26 : decode cX3_sumOfDrops 26 = .ok (.iadd, 1) := by decide +kernel
theorem dX3_sumOfDrops_27 : decode cX3_sumOfDrops 27 = .ok (.ireturn, 1) := by decide +kernel
set_option maxRecDepth 20000 in
theorem ggX3_stir_X3_sumOfDrops : GoodIn wsX3_stir wsX3_sumOfDrops := goodIn_r _ [15, 5, 20, 21, 22, 23, 24, 25, 26] (by decide +kernel) (by decide +kernel)
set_option maxRecDepth 20000 in
theorem gX3_stir_X3_sumOfDrops : GoodIn wsX3_stir (wsV RX3 42 RX3 yX3_sumOfDrops wsX3_sumOfDrops) := goodIn_app (goodIn_of _ (by decide +kernel)) ggX3_stir_X3_sumOfDrops
set_option maxRecDepth 20000 in
theorem ggX3_stir_X3_leastInIt : GoodIn wsX3_stir wsX3_leastInIt := goodIn_r _ [19, 5, 20, 21, 22, 23, 24, 25, 26] (by decide +kernel) (by decide +kernel)
set_option maxRecDepth 20000 in
theorem gX3_stir_X3_leastInIt : GoodIn wsX3_stir (wsV RX3 59 RX3 yX3_leastInIt wsX3_leastInIt) := goodIn_app (goodIn_of _ (by decide +kernel)) ggX3_stir_X3_leastInIt
theorem dX3_stir_0 : decode cX3_stir 0 = .ok (.iconst 1, 1) := by decide +kernel
theorem dX3_stir_1 : decode cX3_stir 1 = .ok (.aload_n 0, 1) := by decide +kernel
theorem dX3_stir_2 : decode cX3_stir 2 = .ok (.invokevirtual 42, 3) := by decide +kernel
theorem dX3_stir_5 : decode cX3_stir 5 = .ok (.invokestatic 46, 3) := by decide +kernel
theorem dX3_stir_8 : decode cX3_stir 8 = .ok (.istore_n 1, 1) := by decide +kernel
theorem dX3_stir_9 : decode cX3_stir 9 = .ok (.iconst 0, 1) := by decide +kernel
theorem dX3_stir_10 : decode cX3_stir 10 = .ok (.istore_n 2, 1) := by decide +kernel
theorem dX3_stir_11 : decode cX3_stir 11 = .ok (.iload_n 2, 1) := by decide +kernel
theorem dX3_stir_12 : decode cX3_stir 12 = .ok (.iconst 3, 1) := by decide +kernel
theorem dX3_stir_13 : decode cX3_stir 13 = .ok (.if_icmp .ge 64, 3) := by decide +kernel
theorem dX3_stir_16 : decode cX3_stir 16 = .ok (.iconst 0, 1) := by decide +kernel
theorem dX3_stir_17 : decode cX3_stir 17 = .ok (.istore_n 3, 1) := by decide +kernel
theorem dX3_stir_18 : decode cX3_stir 18 = .ok (.iconst 0, 1) := by decide +kernel
theorem dX3_stir_19 : decode cX3_stir 19 = .ok (.istore 4, 2) := by decide +kernel
theorem dX3_stir_21 : decode cX3_stir 21 = .ok (.iload 4, 2) := by decide +kernel
theorem dX3_stir_23 : decode cX3_stir 23 = .ok (.iconst 4, 1) := by decide +kernel
theorem dX3_stir_24 : decode cX3_stir 24 = .ok (.if_icmp .ge 35, 3) := by decide +kernel
theorem dX3_stir_27 : decode cX3_stir 27 = .ok (.iload_n 3, 1) := by decide +kernel
theorem dX3_stir_28 : decode cX3_stir 28 = .ok (.aload_n 0, 1) := by decide +kernel
theorem dX3_stir_29 : decode cX3_stir 29 = .ok (.getfield 9, 3) := by decide +kernel
theorem dX3_stir_32 : decode cX3_stir 32 = .ok (.iload 4, 2) := by decide +kernel
theorem dX3_stir_34 : decode cX3_stir 34 = .ok (.iaload, 1) := by decide +kernel
theorem dX3_stir_35 : decode cX3_stir 35 = .ok (.aload_n 0, 1) := by decide +kernel
theorem dX3_stir_36 : decode cX3_stir 36 = .ok (.getfield 28, 3) := by decide +kernel
theorem dX3_stir_39 : decode cX3_stir 39 = .ok (.getfield 52, 3) := by decide +kernel
theorem dX3_stir_42 : decode cX3_stir 42 = .ok (.iload 4, 2) := by decide +kernel
theorem dX3_stir_44 : decode cX3_stir 44 = .ok (.aaload, 1) := by decide +kernel
theorem dX3_stir_45 : decode cX3_stir 45 = .ok (.getfield 56, 3) := by decide +kernel
theorem dX3_stir_48 : decode cX3_stir 48 = .ok (.iload_n 2, 1) := by decide +kernel
theorem dX3_stir_49 : decode cX3_stir 49 = .ok (.iaload, 1) := by decide +kernel
theorem dX3_stir_50 : decode cX3_stir 50 = .ok (.imul, 1) := by decide +kernel
theorem dX3_stir_51 : decode cX3_stir 51 = .ok (.iadd, 1) := by decide +kernel
theorem dX3_stir_52 : decode cX3_stir 52 = .ok (.istore_n 3, 1) := by decide +kernel
theorem dX3_stir_53 : decode cX3_stir 53 = .ok (.iinc 4 1, 3) := by decide +kernel
theorem dX3_stir_56 : decode cX3_stir 56 = .ok (.goto (-35), 3) := by decide +kernel
theorem dX3_stir_59 : decode cX3_stir 59 = .ok (.aload_n 0, 1) := by decide +kernel
theorem dX3_stir_60 : decode cX3_stir 60 = .ok (.getfield 18, 3) := by decide +kernel
theorem dX3_stir_63 : decode cX3_stir 63 = .ok (.getfield 56, 3) := by decide +kernel
theorem dX3_stir_66 : decode cX3_stir 66 = .ok (.iload_n 2, 1) := by decide +kernel
theorem dX3_stir_67 : decode cX3_stir 67 = .ok (.iload_n 3, 1) := by decide +kernel
theorem dX3_stir_68 : decode cX3_stir 68 = .ok (.iload_n 1, 1) := by decide +kernel
theorem dX3_stir_69 : decode cX3_stir 69 = .ok (.idiv, 1) := by decide +kernel
theorem dX3_stir_70 : decode cX3_stir 70 = .ok (.iastore, 1) := by decide +kernel
theorem dX3_stir_71 : decode cX3_stir 71 = .ok (.iinc 2 1, 3) := by decide +kernel
theorem dX3_stir_74 : decode cX3_stir 74 = .ok (.goto (-63), 3) := by decide +kernel
theorem dX3_stir_77 : decode cX3_stir 77 = .ok (.aload_n 0, 1) := by decide +kernel
theorem dX3_stir_78 : decode cX3_stir 78 = .ok (.getfield 18, 3) := by decide +kernel
theorem dX3_stir_81 : decode cX3_stir 81 = .ok (.aload_n 0, 1) := by decide +kernel
theorem dX3_stir_82 : decode cX3_stir 82 = .ok (.getfield 28, 3) := by decide +kernel
theorem dX3_stir_85 : decode cX3_stir 85 = .ok (.getfield 52, 3) := by decide +kernel
theorem dX3_stir_88 : decode cX3_stir 88 = .ok (.aload_n 0, 1) := by decide +kernel
theorem dX3_stir_89 : decode cX3_stir 89 = .ok (.invokevirtual 59, 3) := by decide +kernel
theorem dX3_stir_92 : decode cX3_stir 92 = .ok (.aaload, 1) := by decide +kernel
theorem dX3_stir_93 : decode cX3_stir 93 = .ok (.getfield 62, 3) := by decide +kernel
theorem dX3_stir_96 : decode cX3_stir 96 = .ok (.putfield 62, 3) := by decide +kernel
theorem dX3_stir_99 : decode cX3_stir 99 = .ok (.aload_n 0, 1) := by decide +kernel
theorem dX3_stir_100 : decode cX3_stir 100 = .ok (.getfield 18, 3) := by decide +kernel
theorem dX3_stir_103 : decode cX3_stir 103 = .ok (.areturn, 1) := by decide +kernel
theorem dX3_leastInIt_0 : decode cX3_leastInIt 0 = .ok (.iconst 0, 1) := by decide +kernel
theorem dX3_leastInIt_1 : decode cX3_leastInIt 1 = .ok (.istore_n 1, 1) := by decide +kernel
theorem dX3_leastInIt_2 : decode cX3_leastInIt 2 = .ok (.iload_n 1, 1) := by decide +kernel
theorem dX3_leastInIt_3 : decode cX3_leastInIt 3 = .ok (.iconst 4, 1) := by decide +kernel
theorem dX3_leastInIt_4 : decode cX3_leastInIt 4 = .ok (.if_icmp .ge 20, 3) := by decide +kernel
theorem dX3_leastInIt_7 : decode cX3_leastInIt 7 = .ok (.aload_n 0, 1) := by decide +kernel
theorem dX3_leastInIt_8 : decode cX3_leastInIt 8 = .ok (.getfield 9, 3) := by decide +kernel
theorem dX3_leastInIt_11 : decode cX3_leastInIt 11 = .ok (.iload_n 1, 1) := by decide +kernel
theorem dX3_leastInIt_12 : decode cX3_leastInIt 12 = .ok (.iaload, 1) := by decide +kernel
theorem dX3_leastInIt_13 : decode cX3_leastInIt 13 = .ok (.ifCond .le 5, 3) := by decide +kernel
theorem dX3_leastInIt_16 : decode cX3_leastInIt 16 = .ok (.iload_n 1, 1) := by decide +kernel
theorem dX3_leastInIt_17 : decode cX3_leastInIt 17 = .ok (.ireturn, 1) := by decide +kernel
theorem dX3_leastInIt_18 : decode cX3_leastInIt 18 = .ok (.iinc 1 1, 3) := by decide +kernel
theorem dX3_leastInIt_21 : decode cX3_leastInIt 21 = .ok (.goto (-19), 3) := by decide +kernel
theorem dX3_leastInIt_24 : decode cX3_leastInIt 24 = .ok (.iconst 0, 1) := by decide +kernel
theorem dX3_leastInIt_25 : decode cX3_leastInIt 25 = .ok (.ireturn, 1) := by decide +kernel
set_option maxRecDepth 20000 in
theorem ggX3_searchFor_X6_views : GoodIn wsX3_searchFor wsX6_views := goodIn_r _ [10, 11, 101, 102, 103, 104, 105, 106, 107, 108, 109, 110, 111] (by decide +kernel) (by decide +kernel)
set_option maxRecDepth 20000 in
theorem gX3_searchFor_X6_views : GoodIn wsX3_searchFor (wsV RX3 66 RX6 yX6_views wsX6_views) := goodIn_app (goodIn_of _ (by decide +kernel)) ggX3_searchFor_X6_views
set_option maxRecDepth 20000 in
theorem ggX3_searchFor_X6_lookOfCell : GoodIn wsX3_searchFor wsX6_lookOfCell := goodIn_r _ [15, 16, 17, 18, 19, 20, 21, 22, 23, 9, 24, 25, 26, 27, 28, 29, 30, 31, 32, 33, 34, 35, 36, 37, 38, 39, 40, 41, 101, 102, 103, 104, 105, 106, 107, 108, 109, 110, 111, 112, 113, 114, 115, 116, 117, 118] (by decide +kernel) (by decide +kernel)
set_option maxRecDepth 20000 in
theorem gX3_searchFor_X6_lookOfCell : GoodIn wsX3_searchFor (wsV RX3 69 RX6 yX6_lookOfCell wsX6_lookOfCell) := goodIn_app (goodIn_of _ (by decide +kernel)) ggX3_searchFor_X6_lookOfCell
set_option maxRecDepth 20000 in
theorem ggX3_searchFor_X3_pour : GoodIn wsX3_searchFor wsX3_pour := goodIn_r _ [46, 47, 94, 95, 96, 97, 98, 99, 100] (by decide +kernel) (by decide +kernel)
set_option maxRecDepth 20000 in
theorem gX3_searchFor_X3_pour : GoodIn wsX3_searchFor (wsV RX3 82 RX3 yX3_pour wsX3_pour) := goodIn_app (goodIn_of _ (by decide +kernel)) ggX3_searchFor_X3_pour
set_option maxRecDepth 20000 in
theorem ggX3_searchFor_X3_keepIfBetter : GoodIn wsX3_searchFor wsX3_keepIfBetter := goodIn_r _ [51, 4, 5, 47, 52, 53, 54, 55, 56, 57, 58, 59, 45, 60, 1, 61, 62, 63, 64, 65, 66, 9, 67, 68, 69, 70, 71, 72, 73, 34, 35, 36, 74, 75, 76, 77, 78, 79, 80, 81, 82, 83, 84, 85, 86, 87, 88, 89, 2, 90, 91, 92, 6, 7, 8, 10, 11, 93, 22, 23, 24, 25, 26, 27, 28, 29, 30, 31, 32, 33, 37, 38, 39, 40, 41, 94, 95, 96, 97, 98, 99, 100, 101, 102, 103, 104, 105, 106, 107, 108, 109, 110, 111, 117, 118] (by decide +kernel) (by decide +kernel)
set_option maxRecDepth 20000 in
theorem gX3_searchFor_X3_keepIfBetter : GoodIn wsX3_searchFor (wsV RX3 86 RX3 yX3_keepIfBetter wsX3_keepIfBetter) := goodIn_app (goodIn_of _ (by decide +kernel)) ggX3_searchFor_X3_keepIfBetter
theorem dX3_searchFor_0 : decode cX3_searchFor 0 = .ok (.iconst 0, 1) := by decide +kernel
theorem dX3_searchFor_1 : decode cX3_searchFor 1 = .ok (.istore_n 2, 1) := by decide +kernel
theorem dX3_searchFor_2 : decode cX3_searchFor 2 = .ok (.iload_n 2, 1) := by decide +kernel
theorem dX3_searchFor_3 : decode cX3_searchFor 3 = .ok (.aload_n 0, 1) := by decide +kernel
theorem dX3_searchFor_4 : decode cX3_searchFor 4 = .ok (.getfield 28, 3) := by decide +kernel
theorem dX3_searchFor_7 : decode cX3_searchFor 7 = .ok (.invokevirtual 66, 3) := by decide +kernel
theorem dX3_searchFor_10 : decode cX3_searchFor 10 = .ok (.if_icmp .ge 38, 3) := by decide +kernel
theorem dX3_searchFor_13 : decode cX3_searchFor 13 = .ok (.aload_n 0, 1) := by decide +kernel
theorem dX3_searchFor_14 : decode cX3_searchFor 14 = .ok (.getfield 22, 3) := by decide +kernel
theorem dX3_searchFor_17 : decode cX3_searchFor 17 = .ok (.iload_n 2, 1) := by decide +kernel
theorem dX3_searchFor_18 : decode cX3_searchFor 18 = .ok (.aload_n 0, 1) := by decide +kernel
theorem dX3_searchFor_19 : decode cX3_searchFor 19 = .ok (.getfield 28, 3) := by decide +kernel
theorem dX3_searchFor_22 : decode cX3_searchFor 22 = .ok (.iload_n 1, 1) := by decide +kernel
theorem dX3_searchFor_23 : decode cX3_searchFor 23 = .ok (.iload_n 2, 1) := by decide +kernel
theorem dX3_searchFor_24 : decode cX3_searchFor 24 = .ok (.iconst 2, 1) := by decide +kernel
theorem dX3_searchFor_25 : decode cX3_searchFor 25 = .ok (.idiv, 1) := by decide +kernel
theorem dX3_searchFor_26 : decode cX3_searchFor 26 = .ok (.iload_n 2, 1) := by decide +kernel
theorem dX3_searchFor_27 : decode cX3_searchFor 27 = .ok (.iconst 2, 1) := by decide +kernel
theorem dX3_searchFor_28 : decode cX3_searchFor 28 = .ok (.irem, 1) := by decide +kernel
theorem dX3_searchFor_29 : decode cX3_searchFor 29 = .ok (.iconst 1, 1) := by decide +kernel
theorem dX3_searchFor_30 : decode cX3_searchFor 30 = .ok (.if_icmp .ne 7, 3) := by decide +kernel
theorem dX3_searchFor_33 : decode cX3_searchFor 33 = .ok (.iconst 1, 1) := by decide +kernel
theorem dX3_searchFor_34 : decode cX3_searchFor 34 = .ok (.goto 4, 3) := by decide +kernel
theorem dX3_searchFor_37 : decode cX3_searchFor 37 = .ok (.iconst 0, 1) := by decide +kernel
theorem dX3_searchFor_38 : decode cX3_searchFor 38 = .ok (.invokevirtual 69, 3) := by decide +kernel
theorem dX3_searchFor_41 : decode cX3_searchFor 41 = .ok (.iastore, 1) := by decide +kernel
theorem dX3_searchFor_42 : decode cX3_searchFor 42 = .ok (.iinc 2 1, 3) := by decide +kernel
theorem dX3_searchFor_45 : decode cX3_searchFor 45 = .ok (.goto (-43), 3) := by decide +kernel
theorem dX3_searchFor_48 : decode cX3_searchFor 48 = .ok (.aload_n 0, 1) := by decide +kernel
theorem dX3_searchFor_49 : decode cX3_searchFor 49 = .ok (.ldc 75, 2) := by decide +kernel
theorem dX3_searchFor_51 : decode cX3_searchFor 51 = .ok (.putfield 76, 3) := by decide +kernel
theorem dX3_searchFor_54 : decode cX3_searchFor 54 = .ok (.aload_n 0, 1) := by decide +kernel
theorem dX3_searchFor_55 : decode cX3_searchFor 55 = .ok (.iconst 0, 1) := by decide +kernel
theorem dX3_searchFor_56 : decode cX3_searchFor 56 = .ok (.putfield 79, 3) := by decide +kernel
theorem dX3_searchFor_59 : decode cX3_searchFor 59 = .ok (.bipush 6, 2) := by decide +kernel
theorem dX3_searchFor_61 : decode cX3_searchFor 61 = .ok (.istore_n 2, 1) := by decide +kernel
theorem dX3_searchFor_62 : decode cX3_searchFor 62 = .ok (.iconst 0, 1) := by decide +kernel
theorem dX3_searchFor_63 : decode cX3_searchFor 63 = .ok (.istore_n 3, 1) := by decide +kernel
theorem dX3_searchFor_64 : decode cX3_searchFor 64 = .ok (.iload_n 3, 1) := by decide +kernel
theorem dX3_searchFor_65 : decode cX3_searchFor 65 = .ok (.iload_n 2, 1) := by decide +kernel
theorem dX3_searchFor_66 : decode cX3_searchFor 66 = .ok (.if_icmp .gt 84, 3) := by decide +kernel
theorem dX3_searchFor_69 : decode cX3_searchFor 69 = .ok (.iconst 0, 1) := by decide +kernel
theorem dX3_searchFor_70 : decode cX3_searchFor 70 = .ok (.istore 4, 2) := by decide +kernel
theorem dX3_searchFor_72 : decode cX3_searchFor 72 = .ok (.iload_n 3, 1) := by decide +kernel
theorem dX3_searchFor_73 : decode cX3_searchFor 73 = .ok (.iload 4, 2) := by decide +kernel
theorem dX3_searchFor_75 : decode cX3_searchFor 75 = .ok (.iadd, 1) := by decide +kernel
theorem dX3_searchFor_76 : decode cX3_searchFor 76 = .ok (.iload_n 2, 1) := by decide +kernel
theorem dX3_searchFor_77 : decode cX3_searchFor 77 = .ok (.if_icmp .gt 67, 3) := by decide +kernel
theorem dX3_searchFor_80 : decode cX3_searchFor 80 = .ok (.iconst 0, 1) := by decide +kernel
theorem dX3_searchFor_81 : decode cX3_searchFor 81 = .ok (.istore 5, 2) := by decide +kernel
theorem dX3_searchFor_83 : decode cX3_searchFor 83 = .ok (.iload_n 3, 1) := by decide +kernel
theorem dX3_searchFor_84 : decode cX3_searchFor 84 = .ok (.iload 4, 2) := by decide +kernel
theorem dX3_searchFor_86 : decode cX3_searchFor 86 = .ok (.iadd, 1) := by decide +kernel
theorem dX3_searchFor_87 : decode cX3_searchFor 87 = .ok (.iload 5, 2) := by decide +kernel
theorem dX3_searchFor_89 : decode cX3_searchFor 89 = .ok (.iadd, 1) := by decide +kernel
theorem dX3_searchFor_90 : decode cX3_searchFor 90 = .ok (.iload_n 2, 1) := by decide +kernel
theorem dX3_searchFor_91 : decode cX3_searchFor 91 = .ok (.if_icmp .gt 47, 3) := by decide +kernel
theorem dX3_searchFor_94 : decode cX3_searchFor 94 = .ok (.iconst 0, 1) := by decide +kernel
theorem dX3_searchFor_95 : decode cX3_searchFor 95 = .ok (.istore 6, 2) := by decide +kernel
theorem dX3_searchFor_97 : decode cX3_searchFor 97 = .ok (.iload_n 3, 1) := by decide +kernel
theorem dX3_searchFor_98 : decode cX3_searchFor 98 = .ok (.iload 4, 2) := by decide +kernel
theorem dX3_searchFor_100 : decode cX3_searchFor 100 = .ok (.iadd, 1) := by decide +kernel
theorem dX3_searchFor_101 : decode cX3_searchFor 101 = .ok (.iload 5, 2) := by decide +kernel
theorem dX3_searchFor_103 : decode cX3_searchFor 103 = .ok (.iadd, 1) := by decide +kernel
theorem dX3_searchFor_104 : decode cX3_searchFor 104 = .ok (.iload 6, 2) := by decide +kernel
theorem dX3_searchFor_106 : decode cX3_searchFor 106 = .ok (.iadd, 1) := by decide +kernel
theorem dX3_searchFor_107 : decode cX3_searchFor 107 = .ok (.iload_n 2, 1) := by decide +kernel
theorem dX3_searchFor_108 : decode cX3_searchFor 108 = .ok (.if_icmp .gt 24, 3) := by decide +kernel
theorem dX3_searchFor_111 : decode cX3_searchFor 111 = .ok (.aload_n 0, 1) := by decide +kernel
theorem dX3_searchFor_112 : decode cX3_searchFor 112 = .ok (.iload_n 3, 1) := by decide +kernel
theorem dX3_searchFor_113 : decode cX3_searchFor 113 = .ok (.iload 4, 2) := by decide +kernel
theorem dX3_searchFor_115 : decode cX3_searchFor 115 = .ok (.iload 5, 2) := by decide +kernel
theorem dX3_searchFor_117 : decode cX3_searchFor 117 = .ok (.iload 6, 2) := by decide +kernel
theorem dX3_searchFor_119 : decode cX3_searchFor 119 = .ok (.invokevirtual 82, 3) := by decide +kernel
theorem dX3_searchFor_122 : decode cX3_searchFor 122 = .ok (.aload_n 0, 1) := by decide +kernel
theorem dX3_searchFor_123 : decode cX3_searchFor 123 = .ok (.invokevirtual 86, 3) := by decide +kernel
theorem dX3_searchFor_126 : decode cX3_searchFor 126 = .ok (.iinc 6 1, 3) := by decide +kernel
theorem dX3_searchFor_129 : decode cX3_searchFor 129 = .ok (.goto (-32), 3) := by decide +kernel
theorem dX3_searchFor_132 : decode cX3_searchFor 132 = .ok (.iinc 5 1, 3) := by decide +kernel
theorem dX3_searchFor_135 : decode cX3_searchFor 135 = .ok (.goto (-52), 3) := by decide +kernel
theorem dX3_searchFor_138 : decode cX3_searchFor 138 = .ok (.iinc 4 1, 3) := by decide +kernel
theorem dX3_searchFor_141 : decode cX3_searchFor 141 = .ok (.goto (-69), 3) := by decide +kernel
theorem dX3_searchFor_144 : decode cX3_searchFor 144 = .ok (.iinc 3 1, 3) := by decide +kernel
theorem dX3_searchFor_147 : decode cX3_searchFor 147 = .ok (.goto (-83), 3) := by decide +kernel
theorem dX3_searchFor_150 : decode cX3_searchFor 150 = .ok (.return_, 1) := by decide +kernel
set_option maxRecDepth 20000 in
theorem ggX3_keepIfBetter_X3_isMix : GoodIn wsX3_keepIfBetter wsX3_isMix := goodIn_r _ [13, 3, 14, 15, 16, 17, 18, 19, 20, 21, 22, 23, 75, 76, 77, 78, 79, 80, 81, 82, 83, 84, 85, 86, 87, 88, 89, 90, 91, 92] (by decide +kernel) (by decide +kernel)
set_option maxRecDepth 20000 in
theorem gX3_keepIfBetter_X3_isMix : GoodIn wsX3_keepIfBetter (wsV RX3 89 RX3 yX3_isMix wsX3_isMix) := goodIn_app (goodIn_of _ (by decide +kernel)) ggX3_keepIfBetter_X3_isMix
set_option maxRecDepth 20000 in
theorem ggX3_keepIfBetter_X3_stir : GoodIn wsX3_keepIfBetter wsX3_stir := goodIn_r _ [27, 28, 29, 30, 31, 3, 14, 32, 33, 34, 35, 36, 37, 38, 12, 39, 40, 41, 42, 43, 75, 76, 77, 78, 79, 80, 81, 82, 83, 84, 85, 86, 87, 88, 89, 90, 91, 92, 93, 94] (by decide +kernel) (by decide +kernel)
set_option maxRecDepth 20000 in
theorem gX3_keepIfBetter_X3_stir : GoodIn wsX3_keepIfBetter (wsV RX3 93 RX3 yX3_stir wsX3_stir) := goodIn_app (goodIn_of _ (by decide +kernel)) ggX3_keepIfBetter_X3_stir
set_option maxRecDepth 20000 in
theorem ggX3_keepIfBetter_X3_sumOfDrops : GoodIn wsX3_keepIfBetter wsX3_sumOfDrops := goodIn_r _ [39, 3, 75, 76, 77, 78, 79, 80, 81] (by decide +kernel) (by decide +kernel)
set_option maxRecDepth 20000 in
theorem gX3_keepIfBetter_X3_sumOfDrops : GoodIn wsX3_keepIfBetter (wsV RX3 42 RX3 yX3_sumOfDrops wsX3_sumOfDrops) := goodIn_app (goodIn_of _ (by decide +kernel)) ggX3_keepIfBetter_X3_sumOfDrops
set_option maxRecDepth 20000 in
theorem ggX3_keepIfBetter_X3_farthestApart : GoodIn wsX3_keepIfBetter wsX3_farthestApart := goodIn_r _ [47, 14, 34, 48, 49, 50, 30, 51, 28, 29, 31, 52, 53, 54, 21, 55, 56, 57, 58, 59, 60, 61, 62, 63, 64, 65, 66, 67, 68, 69, 70, 71, 72, 73, 74, 75, 76, 77, 78, 79, 80, 81, 82, 83, 84, 85, 86, 87, 88, 89, 90, 91, 92, 93, 94] (by decide +kernel) (by decide +kernel)
set_option maxRecDepth 20000 in
theorem gX3_keepIfBetter_X3_farthestApart : GoodIn wsX3_keepIfBetter (wsV RX3 97 RX3 yX3_farthestApart wsX3_farthestApart) := goodIn_app (goodIn_of _ (by decide +kernel)) ggX3_keepIfBetter_X3_farthestApart
theorem dX3_keepIfBetter_0 : decode cX3_keepIfBetter 0 = .ok (.aload_n 0, 1) := by decide +kernel
theorem dX3_keepIfBetter_1 : decode cX3_keepIfBetter 1 = .ok (.invokevirtual 89, 3) := by decide +kernel
theorem dX3_keepIfBetter_4 : decode cX3_keepIfBetter 4 = .ok (.ifCond .ne 4, 3) := by decide +kernel
theorem dX3_keepIfBetter_7 : decode cX3_keepIfBetter 7 = .ok (.return_, 1) := by decide +kernel
theorem dX3_keepIfBetter_8 : decode cX3_keepIfBetter 8 = .ok (.aload_n 0, 1) := by decide +kernel
theorem dX3_keepIfBetter_9 : decode cX3_keepIfBetter 9 = .ok (.invokevirtual 93, 3) := by decide +kernel
theorem dX3_keepIfBetter_12 : decode cX3_keepIfBetter 12 = .ok (.pop, 1) := by decide +kernel
theorem dX3_keepIfBetter_13 : decode cX3_keepIfBetter 13 = .ok (.aload_n 0, 1) := by decide +kernel
theorem dX3_keepIfBetter_14 : decode cX3_keepIfBetter 14 = .ok (.invokevirtual 42, 3) := by decide +kernel
theorem dX3_keepIfBetter_17 : decode cX3_keepIfBetter 17 = .ok (.istore_n 1, 1) := by decide +kernel
theorem dX3_keepIfBetter_18 : decode cX3_keepIfBetter 18 = .ok (.aload_n 0, 1) := by decide +kernel
theorem dX3_keepIfBetter_19 : decode cX3_keepIfBetter 19 = .ok (.invokevirtual 97, 3) := by decide +kernel
theorem dX3_keepIfBetter_22 : decode cX3_keepIfBetter 22 = .ok (.istore_n 2, 1) := by decide +kernel
theorem dX3_keepIfBetter_23 : decode cX3_keepIfBetter 23 = .ok (.iload_n 2, 1) := by decide +kernel
theorem dX3_keepIfBetter_24 : decode cX3_keepIfBetter 24 = .ok (.aload_n 0, 1) := by decide +kernel
theorem dX3_keepIfBetter_25 : decode cX3_keepIfBetter 25 = .ok (.getfield 76, 3) := by decide +kernel
theorem dX3_keepIfBetter_28 : decode cX3_keepIfBetter 28 = .ok (.if_icmp .lt 19, 3) := by decide +kernel
theorem dX3_keepIfBetter_31 : decode cX3_keepIfBetter 31 = .ok (.iload_n 2, 1) := by decide +kernel
theorem dX3_keepIfBetter_32 : decode cX3_keepIfBetter 32 = .ok (.aload_n 0, 1) := by decide +kernel
theorem dX3_keepIfBetter_33 : decode cX3_keepIfBetter 33 = .ok (.getfield 76, 3) := by decide +kernel
theorem dX3_keepIfBetter_36 : decode cX3_keepIfBetter 36 = .ok (.if_icmp .ne 35, 3) := by decide +kernel
theorem dX3_keepIfBetter_39 : decode cX3_keepIfBetter 39 = .ok (.iload_n 1, 1) := by decide +kernel
theorem dX3_keepIfBetter_40 : decode cX3_keepIfBetter 40 = .ok (.aload_n 0, 1) := by decide +kernel
theorem dX3_keepIfBetter_41 : decode cX3_keepIfBetter 41 = .ok (.getfield 79, 3) := by decide +kernel
theorem dX3_keepIfBetter_44 : decode cX3_keepIfBetter 44 = .ok (.if_icmp .ge 27, 3) := by decide +kernel
theorem dX3_keepIfBetter_47 : decode cX3_keepIfBetter 47 = .ok (.aload_n 0, 1) := by decide +kernel
theorem dX3_keepIfBetter_48 : decode cX3_keepIfBetter 48 = .ok (.iload_n 2, 1) := by decide +kernel
theorem dX3_keepIfBetter_49 : decode cX3_keepIfBetter 49 = .ok (.putfield 76, 3) := by decide +kernel
theorem dX3_keepIfBetter_52 : decode cX3_keepIfBetter 52 = .ok (.aload_n 0, 1) := by decide +kernel
theorem dX3_keepIfBetter_53 : decode cX3_keepIfBetter 53 = .ok (.iload_n 1, 1) := by decide +kernel
theorem dX3_keepIfBetter_54 : decode cX3_keepIfBetter 54 = .ok (.putfield 79, 3) := by decide +kernel
theorem dX3_keepIfBetter_57 : decode cX3_keepIfBetter 57 = .ok (.aload_n 0, 1) := by decide +kernel
theorem dX3_keepIfBetter_58 : decode cX3_keepIfBetter 58 = .ok (.getfield 9, 3) := by decide +kernel
theorem dX3_keepIfBetter_61 : decode cX3_keepIfBetter 61 = .ok (.iconst 0, 1) := by decide +kernel
theorem dX3_keepIfBetter_62 : decode cX3_keepIfBetter 62 = .ok (.aload_n 0, 1) := by decide +kernel
theorem dX3_keepIfBetter_63 : decode cX3_keepIfBetter 63 = .ok (.getfield 25, 3) := by decide +kernel
theorem dX3_keepIfBetter_66 : decode cX3_keepIfBetter 66 = .ok (.iconst 0, 1) := by decide +kernel
theorem dX3_keepIfBetter_67 : decode cX3_keepIfBetter 67 = .ok (.iconst 4, 1) := by decide +kernel
theorem dX3_keepIfBetter_68 : decode cX3_keepIfBetter 68 = .ok (.invokestatic 100, 3) := by decide +kernel
theorem dX3_keepIfBetter_71 : decode cX3_keepIfBetter 71 = .ok (.return_, 1) := by decide +kernel
set_option maxRecDepth 20000 in
theorem ggX3_farthestApart_X6_views : GoodIn wsX3_farthestApart wsX6_views := goodIn_r _ [15, 16, 42, 43, 44, 45, 46, 47, 48, 49, 50, 51, 52] (by decide +kernel) (by decide +kernel)
set_option maxRecDepth 20000 in
theorem gX3_farthestApart_X6_views : GoodIn wsX3_farthestApart (wsV RX3 66 RX6 yX6_views wsX6_views) := goodIn_app (goodIn_of _ (by decide +kernel)) ggX3_farthestApart_X6_views
set_option maxRecDepth 20000 in
theorem ggX3_farthestApart_X6_lookOfCoat : GoodIn wsX3_farthestApart wsX6_lookOfCoat := goodIn_r _ [20, 21, 22, 23, 24, 25, 26, 27, 28, 29, 9, 6, 10, 30, 31, 32, 33, 34, 42, 43, 44, 45, 46, 47, 48, 49, 50, 51, 52, 53, 54] (by decide +kernel) (by decide +kernel)
set_option maxRecDepth 20000 in
theorem gX3_farthestApart_X6_lookOfCoat : GoodIn wsX3_farthestApart (wsV RX3 106 RX6 yX6_lookOfCoat wsX6_lookOfCoat) := goodIn_app (goodIn_of _ (by decide +kernel)) ggX3_farthestApart_X6_lookOfCoat
theorem dX3_farthestApart_0 : decode cX3_farthestApart 0 = .ok (.iconst 0, 1) := by decide +kernel
theorem dX3_farthestApart_1 : decode cX3_farthestApart 1 = .ok (.istore_n 1, 1) := by decide +kernel
theorem dX3_farthestApart_2 : decode cX3_farthestApart 2 = .ok (.iconst 0, 1) := by decide +kernel
theorem dX3_farthestApart_3 : decode cX3_farthestApart 3 = .ok (.istore_n 2, 1) := by decide +kernel
theorem dX3_farthestApart_4 : decode cX3_farthestApart 4 = .ok (.iload_n 2, 1) := by decide +kernel
theorem dX3_farthestApart_5 : decode cX3_farthestApart 5 = .ok (.aload_n 0, 1) := by decide +kernel
theorem dX3_farthestApart_6 : decode cX3_farthestApart 6 = .ok (.getfield 28, 3) := by decide +kernel
theorem dX3_farthestApart_9 : decode cX3_farthestApart 9 = .ok (.invokevirtual 66, 3) := by decide +kernel
theorem dX3_farthestApart_12 : decode cX3_farthestApart 12 = .ok (.if_icmp .ge 54, 3) := by decide +kernel
theorem dX3_farthestApart_15 : decode cX3_farthestApart 15 = .ok (.aload_n 0, 1) := by decide +kernel
theorem dX3_farthestApart_16 : decode cX3_farthestApart 16 = .ok (.getfield 28, 3) := by decide +kernel
theorem dX3_farthestApart_19 : decode cX3_farthestApart 19 = .ok (.aload_n 0, 1) := by decide +kernel
theorem dX3_farthestApart_20 : decode cX3_farthestApart 20 = .ok (.getfield 18, 3) := by decide +kernel
theorem dX3_farthestApart_23 : decode cX3_farthestApart 23 = .ok (.iconst 0, 1) := by decide +kernel
theorem dX3_farthestApart_24 : decode cX3_farthestApart 24 = .ok (.iconst 0, 1) := by decide +kernel
theorem dX3_farthestApart_25 : decode cX3_farthestApart 25 = .ok (.iload_n 2, 1) := by decide +kernel
theorem dX3_farthestApart_26 : decode cX3_farthestApart 26 = .ok (.iconst 2, 1) := by decide +kernel
theorem dX3_farthestApart_27 : decode cX3_farthestApart 27 = .ok (.idiv, 1) := by decide +kernel
theorem dX3_farthestApart_28 : decode cX3_farthestApart 28 = .ok (.iload_n 2, 1) := by decide +kernel
theorem dX3_farthestApart_29 : decode cX3_farthestApart 29 = .ok (.iconst 2, 1) := by decide +kernel
theorem dX3_farthestApart_30 : decode cX3_farthestApart 30 = .ok (.irem, 1) := by decide +kernel
theorem dX3_farthestApart_31 : decode cX3_farthestApart 31 = .ok (.iconst 1, 1) := by decide +kernel
theorem dX3_farthestApart_32 : decode cX3_farthestApart 32 = .ok (.if_icmp .ne 7, 3) := by decide +kernel
theorem dX3_farthestApart_35 : decode cX3_farthestApart 35 = .ok (.iconst 1, 1) := by decide +kernel
theorem dX3_farthestApart_36 : decode cX3_farthestApart 36 = .ok (.goto 4, 3) := by decide +kernel
theorem dX3_farthestApart_39 : decode cX3_farthestApart 39 = .ok (.iconst 0, 1) := by decide +kernel
theorem dX3_farthestApart_40 : decode cX3_farthestApart 40 = .ok (.invokevirtual 106, 3) := by decide +kernel
theorem dX3_farthestApart_43 : decode cX3_farthestApart 43 = .ok (.istore_n 3, 1) := by decide +kernel
theorem dX3_farthestApart_44 : decode cX3_farthestApart 44 = .ok (.iload_n 1, 1) := by decide +kernel
theorem dX3_farthestApart_45 : decode cX3_farthestApart 45 = .ok (.iload_n 3, 1) := by decide +kernel
theorem dX3_farthestApart_46 : decode cX3_farthestApart 46 = .ok (.aload_n 0, 1) := by decide +kernel
theorem dX3_farthestApart_47 : decode cX3_farthestApart 47 = .ok (.getfield 22, 3) := by decide +kernel
theorem dX3_farthestApart_50 : decode cX3_farthestApart 50 = .ok (.iload_n 2, 1) := by decide +kernel
theorem dX3_farthestApart_51 : decode cX3_farthestApart 51 = .ok (.iaload, 1) := by decide +kernel
theorem dX3_farthestApart_52 : decode cX3_farthestApart 52 = .ok (.isub, 1) := by decide +kernel
theorem dX3_farthestApart_53 : decode cX3_farthestApart 53 = .ok (.invokestatic 110, 3) := by decide +kernel
theorem dX3_farthestApart_56 : decode cX3_farthestApart 56 = .ok (.invokestatic 46, 3) := by decide +kernel
theorem dX3_farthestApart_59 : decode cX3_farthestApart 59 = .ok (.istore_n 1, 1) := by decide +kernel
theorem dX3_farthestApart_60 : decode cX3_farthestApart 60 = .ok (.iinc 2 1, 3) := by decide +kernel
theorem dX3_farthestApart_63 : decode cX3_farthestApart 63 = .ok (.goto (-59), 3) := by decide +kernel
theorem dX3_farthestApart_66 : decode cX3_farthestApart 66 = .ok (.iload_n 1, 1) := by decide +kernel
theorem dX3_farthestApart_67 : decode cX3_farthestApart 67 = .ok (.ireturn, 1) := by decide +kernel
theorem dX4_init_0 : decode cX4_init 0 = .ok (.aload_n 0, 1) := by decide +kernel
theorem dX4_init_1 : decode cX4_init 1 = .ok (.invokespecial 1, 3) := by decide +kernel
theorem dX4_init_4 : decode cX4_init 4 = .ok (.aload_n 0, 1) := by decide +kernel
theorem dX4_init_5 : decode cX4_init 5 = .ok (.aload_n 1, 1) := by decide +kernel
theorem dX4_init_6 : decode cX4_init 6 = .ok (.putfield 7, 3) := by decide +kernel
theorem dX4_init_9 : decode cX4_init 9 = .ok (.aload_n 0, 1) := by decide +kernel
theorem dX4_init_10 : decode cX4_init 10 = .ok (.aload_n 2, 1) := by decide +kernel
theorem dX4_init_11 : decode cX4_init 11 = .ok (.putfield 13, 3) := by decide +kernel
theorem dX4_init_14 : decode cX4_init 14 = .ok (.return_, 1) := by decide +kernel
set_option maxRecDepth 20000 in
theorem ggX4_searchAround_X2_takeAsItIs : GoodIn wsX4_searchAround wsX2_takeAsItIs := goodIn_r _ [10, 11, 12, 13, 14, 15, 16, 17, 18, 19, 20, 21, 22, 23, 24, 25, 26, 27, 28, 29, 30, 31, 32, 33, 34, 35, 36, 37, 38, 39, 40, 41, 42, 43, 44, 45, 46, 47, 48, 49, 50, 51, 52, 9, 53, 54, 120, 121, 122, 109, 110, 111, 112, 113, 114, 115, 116, 117, 118, 119, 123, 124, 125, 126, 127, 128, 129] (by decide +kernel) (by decide +kernel)
set_option maxRecDepth 20000 in
theorem gX4_searchAround_X2_takeAsItIs : GoodIn wsX4_searchAround (wsV RX4 21 RX2 yX2_takeAsItIs wsX2_takeAsItIs) := goodIn_app (goodIn_of _ (by decide +kernel)) ggX4_searchAround_X2_takeAsItIs
set_option maxRecDepth 20000 in
theorem ggX4_searchAround_X2_takeFresh : GoodIn wsX4_searchAround wsX2_takeFresh := goodIn_r _ [58, 11, 13, 59, 14, 15, 16, 17, 18, 19, 60, 30, 31, 32, 33, 34, 35, 36, 37, 38, 39, 40, 41, 42, 43, 44, 45, 46, 47, 48, 49, 120, 121, 122, 109, 110, 111, 112, 113, 114, 115, 116, 117, 118, 119, 128, 129] (by decide +kernel) (by decide +kernel)
set_option maxRecDepth 20000 in
theorem gX4_searchAround_X2_takeFresh : GoodIn wsX4_searchAround (wsV RX4 26 RX2 yX2_takeFresh wsX2_takeFresh) := goodIn_app (goodIn_of _ (by decide +kernel)) ggX4_searchAround_X2_takeFresh
set_option maxRecDepth 20000 in
theorem ggX4_searchAround_X6_rowOf : GoodIn wsX4_searchAround wsX6_rowOf := goodIn_r _ [64, 65, 109, 110, 111, 112, 113, 114, 115, 116, 117, 118, 119] (by decide +kernel) (by decide +kernel)
set_option maxRecDepth 20000 in
theorem gX4_searchAround_X6_rowOf : GoodIn wsX4_searchAround (wsV RX4 30 RX6 yX6_rowOf wsX6_rowOf) := goodIn_app (goodIn_of _ (by decide +kernel)) ggX4_searchAround_X6_rowOf
set_option maxRecDepth 20000 in
theorem ggX4_searchAround_X6_columnOf : GoodIn wsX4_searchAround wsX6_columnOf := goodIn_r _ [69, 65, 109, 110, 111, 112, 113, 114, 115, 116, 117, 118, 119] (by decide +kernel) (by decide +kernel)
set_option maxRecDepth 20000 in
theorem gX4_searchAround_X6_columnOf : GoodIn wsX4_searchAround (wsV RX4 36 RX6 yX6_columnOf wsX6_columnOf) := goodIn_app (goodIn_of _ (by decide +kernel)) ggX4_searchAround_X6_columnOf
set_option maxRecDepth 20000 in
theorem ggX4_searchAround_X4_keepIfBetter : GoodIn wsX4_searchAround wsX4_keepIfBetter := goodIn_r _ [74, 1, 2, 3, 5, 75, 76, 77, 51, 52, 9, 53, 11, 12, 54, 78, 79, 80, 81, 82, 83, 84, 85, 86, 87, 88, 89, 90, 91, 67, 68, 17, 69, 65, 92, 93, 94, 95, 13, 96, 97, 43, 98, 99, 14, 15, 16, 18, 19, 100, 101, 102, 103, 104, 105, 106, 107, 108, 109, 110, 111, 112, 113, 114, 115, 116, 117, 118, 119, 120, 121, 122] (by decide +kernel) (by decide +kernel)
set_option maxRecDepth 20000 in
theorem gX4_searchAround_X4_keepIfBetter : GoodIn wsX4_searchAround (wsV RX4 45 RX4 yX4_keepIfBetter wsX4_keepIfBetter) := goodIn_app (goodIn_of _ (by decide +kernel)) ggX4_searchAround_X4_keepIfBetter
theorem dX4_searchAround_0 : decode cX4_searchAround 0 = .ok (.aload_n 0, 1) := by decide +kernel
theorem dX4_searchAround_1 : decode cX4_searchAround 1 = .ok (.iconst 0, 1) := by decide +kernel
theorem dX4_searchAround_2 : decode cX4_searchAround 2 = .ok (.putfield 17, 3) := by decide +kernel
theorem dX4_searchAround_5 : decode cX4_searchAround 5 = .ok (.aload_n 0, 1) := by decide +kernel
theorem dX4_searchAround_6 : decode cX4_searchAround 6 = .ok (.getfield 13, 3) := by decide +kernel
theorem dX4_searchAround_9 : decode cX4_searchAround 9 = .ok (.invokevirtual 21, 3) := by decide +kernel
theorem dX4_searchAround_12 : decode cX4_searchAround 12 = .ok (.aload_n 0, 1) := by decide +kernel
theorem dX4_searchAround_13 : decode cX4_searchAround 13 = .ok (.getfield 13, 3) := by decide +kernel
theorem dX4_searchAround_16 : decode cX4_searchAround 16 = .ok (.iload_n 2, 1) := by decide +kernel
theorem dX4_searchAround_17 : decode cX4_searchAround 17 = .ok (.invokevirtual 26, 3) := by decide +kernel
theorem dX4_searchAround_20 : decode cX4_searchAround 20 = .ok (.aload_n 0, 1) := by decide +kernel
theorem dX4_searchAround_21 : decode cX4_searchAround 21 = .ok (.getfield 7, 3) := by decide +kernel
theorem dX4_searchAround_24 : decode cX4_searchAround 24 = .ok (.iload_n 1, 1) := by decide +kernel
theorem dX4_searchAround_25 : decode cX4_searchAround 25 = .ok (.invokevirtual 30, 3) := by decide +kernel
theorem dX4_searchAround_28 : decode cX4_searchAround 28 = .ok (.istore_n 3, 1) := by decide +kernel
theorem dX4_searchAround_29 : decode cX4_searchAround 29 = .ok (.aload_n 0, 1) := by decide +kernel
theorem dX4_searchAround_30 : decode cX4_searchAround 30 = .ok (.getfield 7, 3) := by decide +kernel
theorem dX4_searchAround_33 : decode cX4_searchAround 33 = .ok (.iload_n 1, 1) := by decide +kernel
theorem dX4_searchAround_34 : decode cX4_searchAround 34 = .ok (.invokevirtual 36, 3) := by decide +kernel
theorem dX4_searchAround_37 : decode cX4_searchAround 37 = .ok (.istore 4, 2) := by decide +kernel
theorem dX4_searchAround_39 : decode cX4_searchAround 39 = .ok (.iconst 0, 1) := by decide +kernel
theorem dX4_searchAround_40 : decode cX4_searchAround 40 = .ok (.istore 5, 2) := by decide +kernel
theorem dX4_searchAround_42 : decode cX4_searchAround 42 = .ok (.iload 5, 2) := by decide +kernel
theorem dX4_searchAround_44 : decode cX4_searchAround 44 = .ok (.iload_n 3, 1) := by decide +kernel
theorem dX4_searchAround_45 : decode cX4_searchAround 45 = .ok (.if_icmp .gt 80, 3) := by decide +kernel
theorem dX4_searchAround_48 : decode cX4_searchAround 48 = .ok (.iconst 0, 1) := by decide +kernel
theorem dX4_searchAround_49 : decode cX4_searchAround 49 = .ok (.istore 6, 2) := by decide +kernel
theorem dX4_searchAround_51 : decode cX4_searchAround 51 = .ok (.iload 6, 2) := by decide +kernel
theorem dX4_searchAround_53 : decode cX4_searchAround 53 = .ok (.iload 4, 2) := by decide +kernel
theorem dX4_searchAround_55 : decode cX4_searchAround 55 = .ok (.if_icmp .gt 64, 3) := by decide +kernel
theorem dX4_searchAround_58 : decode cX4_searchAround 58 = .ok (.iload_n 3, 1) := by decide +kernel
theorem dX4_searchAround_59 : decode cX4_searchAround 59 = .ok (.istore 7, 2) := by decide +kernel
theorem dX4_searchAround_61 : decode cX4_searchAround 61 = .ok (.iload 7, 2) := by decide +kernel
theorem dX4_searchAround_63 : decode cX4_searchAround 63 = .ok (.aload_n 0, 1) := by decide +kernel
theorem dX4_searchAround_64 : decode cX4_searchAround 64 = .ok (.getfield 7, 3) := by decide +kernel
theorem dX4_searchAround_67 : decode cX4_searchAround 67 = .ok (.getfield 39, 3) := by decide +kernel
theorem dX4_searchAround_70 : decode cX4_searchAround 70 = .ok (.if_icmp .ge 43, 3) := by decide +kernel
theorem dX4_searchAround_73 : decode cX4_searchAround 73 = .ok (.iload 4, 2) := by decide +kernel
theorem dX4_searchAround_75 : decode cX4_searchAround 75 = .ok (.istore 8, 2) := by decide +kernel
theorem dX4_searchAround_77 : decode cX4_searchAround 77 = .ok (.iload 8, 2) := by decide +kernel
theorem dX4_searchAround_79 : decode cX4_searchAround 79 = .ok (.aload_n 0, 1) := by decide +kernel
theorem dX4_searchAround_80 : decode cX4_searchAround 80 = .ok (.getfield 7, 3) := by decide +kernel
theorem dX4_searchAround_83 : decode cX4_searchAround 83 = .ok (.getfield 42, 3) := by decide +kernel
theorem dX4_searchAround_86 : decode cX4_searchAround 86 = .ok (.if_icmp .ge 21, 3) := by decide +kernel
theorem dX4_searchAround_89 : decode cX4_searchAround 89 = .ok (.aload_n 0, 1) := by decide +kernel
theorem dX4_searchAround_90 : decode cX4_searchAround 90 = .ok (.iload 5, 2) := by decide +kernel
theorem dX4_searchAround_92 : decode cX4_searchAround 92 = .ok (.iload 6, 2) := by decide +kernel
theorem dX4_searchAround_94 : decode cX4_searchAround 94 = .ok (.iload 7, 2) := by decide +kernel
theorem dX4_searchAround_96 : decode cX4_searchAround 96 = .ok (.iload 8, 2) := by decide +kernel
theorem dX4_searchAround_98 : decode cX4_searchAround 98 = .ok (.invokevirtual 45, 3) := by decide +kernel
theorem dX4_searchAround_101 : decode cX4_searchAround 101 = .ok (.iinc 8 1, 3) := by decide +kernel
theorem dX4_searchAround_104 : decode cX4_searchAround 104 = .ok (.goto (-27), 3) := by decide +kernel
theorem dX4_searchAround_107 : decode cX4_searchAround 107 = .ok (.iinc 7 1, 3) := by decide +kernel
theorem dX4_searchAround_110 : decode cX4_searchAround 110 = .ok (.goto (-49), 3) := by decide +kernel
theorem dX4_searchAround_113 : decode cX4_searchAround 113 = .ok (.iinc 6 1, 3) := by decide +kernel
theorem dX4_searchAround_116 : decode cX4_searchAround 116 = .ok (.goto (-65), 3) := by decide +kernel
theorem dX4_searchAround_119 : decode cX4_searchAround 119 = .ok (.iinc 5 1, 3) := by decide +kernel
theorem dX4_searchAround_122 : decode cX4_searchAround 122 = .ok (.goto (-80), 3) := by decide +kernel
theorem dX4_searchAround_125 : decode cX4_searchAround 125 = .ok (.return_, 1) := by decide +kernel
set_option maxRecDepth 20000 in
theorem ggX4_keepIfBetter_X2_unpaint : GoodIn wsX4_keepIfBetter wsX2_unpaint := goodIn_r _ [11, 12, 13, 14, 69, 70, 71, 58, 59, 60, 61, 62, 63, 64, 65, 66, 67, 68] (by decide +kernel) (by decide +kernel)
set_option maxRecDepth 20000 in
theorem gX4_keepIfBetter_X2_unpaint : GoodIn wsX4_keepIfBetter (wsV RX4 49 RX2 yX2_unpaint wsX2_unpaint) := goodIn_app (goodIn_of _ (by decide +kernel)) ggX4_keepIfBetter_X2_unpaint
set_option maxRecDepth 20000 in
theorem ggX4_keepIfBetter_X2_paintOne : GoodIn wsX4_keepIfBetter wsX2_paintOne := goodIn_r _ [18, 14, 69, 70, 71] (by decide +kernel) (by decide +kernel)
set_option maxRecDepth 20000 in
theorem gX4_keepIfBetter_X2_paintOne : GoodIn wsX4_keepIfBetter (wsV RX4 52 RX2 yX2_paintOne wsX2_paintOne) := goodIn_app (goodIn_of _ (by decide +kernel)) ggX4_keepIfBetter_X2_paintOne
set_option maxRecDepth 20000 in
theorem ggX4_keepIfBetter_X2_isAnySeen : GoodIn wsX4_keepIfBetter wsX2_isAnySeen := goodIn_r _ [22, 12, 13, 23, 24, 25, 10, 26, 27, 28, 29, 30, 31, 32, 33, 34, 35, 36, 37, 14, 38, 39, 40, 41, 42, 43, 44, 45, 46, 47, 48, 49, 50, 51, 52, 69, 70, 71, 58, 59, 60, 61, 62, 63, 64, 65, 66, 67, 68] (by decide +kernel) (by decide +kernel)
set_option maxRecDepth 20000 in
theorem gX4_keepIfBetter_X2_isAnySeen : GoodIn wsX4_keepIfBetter (wsV RX4 55 RX2 yX2_isAnySeen wsX2_isAnySeen) := goodIn_app (goodIn_of _ (by decide +kernel)) ggX4_keepIfBetter_X2_isAnySeen
theorem dX4_keepIfBetter_0 : decode cX4_keepIfBetter 0 = .ok (.iload_n 3, 1) := by decide +kernel
theorem dX4_keepIfBetter_1 : decode cX4_keepIfBetter 1 = .ok (.iload_n 1, 1) := by decide +kernel
theorem dX4_keepIfBetter_2 : decode cX4_keepIfBetter 2 = .ok (.isub, 1) := by decide +kernel
theorem dX4_keepIfBetter_3 : decode cX4_keepIfBetter 3 = .ok (.iconst 1, 1) := by decide +kernel
theorem dX4_keepIfBetter_4 : decode cX4_keepIfBetter 4 = .ok (.iadd, 1) := by decide +kernel
theorem dX4_keepIfBetter_5 : decode cX4_keepIfBetter 5 = .ok (.iload 4, 2) := by decide +kernel
theorem dX4_keepIfBetter_7 : decode cX4_keepIfBetter 7 = .ok (.iload_n 2, 1) := by decide +kernel
theorem dX4_keepIfBetter_8 : decode cX4_keepIfBetter 8 = .ok (.isub, 1) := by decide +kernel
theorem dX4_keepIfBetter_9 : decode cX4_keepIfBetter 9 = .ok (.iconst 1, 1) := by decide +kernel
theorem dX4_keepIfBetter_10 : decode cX4_keepIfBetter 10 = .ok (.iadd, 1) := by decide +kernel
theorem dX4_keepIfBetter_11 : decode cX4_keepIfBetter 11 = .ok (.imul, 1) := by decide +kernel
theorem dX4_keepIfBetter_12 : decode cX4_keepIfBetter 12 = .ok (.istore 5, 2) := by decide +kernel
theorem dX4_keepIfBetter_14 : decode cX4_keepIfBetter 14 = .ok (.aload_n 0, 1) := by decide +kernel
theorem dX4_keepIfBetter_15 : decode cX4_keepIfBetter 15 = .ok (.getfield 17, 3) := by decide +kernel
theorem dX4_keepIfBetter_18 : decode cX4_keepIfBetter 18 = .ok (.ifCond .eq 13, 3) := by decide +kernel
theorem dX4_keepIfBetter_21 : decode cX4_keepIfBetter 21 = .ok (.iload 5, 2) := by decide +kernel
theorem dX4_keepIfBetter_23 : decode cX4_keepIfBetter 23 = .ok (.aload_n 0, 1) := by decide +kernel
theorem dX4_keepIfBetter_24 : decode cX4_keepIfBetter 24 = .ok (.getfield 17, 3) := by decide +kernel
theorem dX4_keepIfBetter_27 : decode cX4_keepIfBetter 27 = .ok (.if_icmp .lt 4, 3) := by decide +kernel
theorem dX4_keepIfBetter_30 : decode cX4_keepIfBetter 30 = .ok (.return_, 1) := by decide +kernel
theorem dX4_keepIfBetter_31 : decode cX4_keepIfBetter 31 = .ok (.aload_n 0, 1) := by decide +kernel
theorem dX4_keepIfBetter_32 : decode cX4_keepIfBetter 32 = .ok (.getfield 13, 3) := by decide +kernel
theorem dX4_keepIfBetter_35 : decode cX4_keepIfBetter 35 = .ok (.invokevirtual 49, 3) := by decide +kernel
theorem dX4_keepIfBetter_38 : decode cX4_keepIfBetter 38 = .ok (.iload_n 1, 1) := by decide +kernel
theorem dX4_keepIfBetter_39 : decode cX4_keepIfBetter 39 = .ok (.istore 6, 2) := by decide +kernel
theorem dX4_keepIfBetter_41 : decode cX4_keepIfBetter 41 = .ok (.iload 6, 2) := by decide +kernel
theorem dX4_keepIfBetter_43 : decode cX4_keepIfBetter 43 = .ok (.iload_n 3, 1) := by decide +kernel
theorem dX4_keepIfBetter_44 : decode cX4_keepIfBetter 44 = .ok (.if_icmp .gt 45, 3) := by decide +kernel
theorem dX4_keepIfBetter_47 : decode cX4_keepIfBetter 47 = .ok (.iload_n 2, 1) := by decide +kernel
theorem dX4_keepIfBetter_48 : decode cX4_keepIfBetter 48 = .ok (.istore 7, 2) := by decide +kernel
theorem dX4_keepIfBetter_50 : decode cX4_keepIfBetter 50 = .ok (.iload 7, 2) := by decide +kernel
theorem dX4_keepIfBetter_52 : decode cX4_keepIfBetter 52 = .ok (.iload 4, 2) := by decide +kernel
theorem dX4_keepIfBetter_54 : decode cX4_keepIfBetter 54 = .ok (.if_icmp .gt 29, 3) := by decide +kernel
theorem dX4_keepIfBetter_57 : decode cX4_keepIfBetter 57 = .ok (.aload_n 0, 1) := by decide +kernel
theorem dX4_keepIfBetter_58 : decode cX4_keepIfBetter 58 = .ok (.getfield 13, 3) := by decide +kernel
theorem dX4_keepIfBetter_61 : decode cX4_keepIfBetter 61 = .ok (.iload 6, 2) := by decide +kernel
theorem dX4_keepIfBetter_63 : decode cX4_keepIfBetter 63 = .ok (.aload_n 0, 1) := by decide +kernel
theorem dX4_keepIfBetter_64 : decode cX4_keepIfBetter 64 = .ok (.getfield 7, 3) := by decide +kernel
theorem dX4_keepIfBetter_67 : decode cX4_keepIfBetter 67 = .ok (.getfield 42, 3) := by decide +kernel
theorem dX4_keepIfBetter_70 : decode cX4_keepIfBetter 70 = .ok (.imul, 1) := by decide +kernel
theorem dX4_keepIfBetter_71 : decode cX4_keepIfBetter 71 = .ok (.iload 7, 2) := by decide +kernel
theorem dX4_keepIfBetter_73 : decode cX4_keepIfBetter 73 = .ok (.iadd, 1) := by decide +kernel
theorem dX4_keepIfBetter_74 : decode cX4_keepIfBetter 74 = .ok (.invokevirtual 52, 3) := by decide +kernel
theorem dX4_keepIfBetter_77 : decode cX4_keepIfBetter 77 = .ok (.iinc 7 1, 3) := by decide +kernel
theorem dX4_keepIfBetter_80 : decode cX4_keepIfBetter 80 = .ok (.goto (-30), 3) := by decide +kernel
theorem dX4_keepIfBetter_83 : decode cX4_keepIfBetter 83 = .ok (.iinc 6 1, 3) := by decide +kernel
theorem dX4_keepIfBetter_86 : decode cX4_keepIfBetter 86 = .ok (.goto (-45), 3) := by decide +kernel
theorem dX4_keepIfBetter_89 : decode cX4_keepIfBetter 89 = .ok (.aload_n 0, 1) := by decide +kernel
theorem dX4_keepIfBetter_90 : decode cX4_keepIfBetter 90 = .ok (.getfield 13, 3) := by decide +kernel
theorem dX4_keepIfBetter_93 : decode cX4_keepIfBetter 93 = .ok (.invokevirtual 55, 3) := by decide +kernel
theorem dX4_keepIfBetter_96 : decode cX4_keepIfBetter 96 = .ok (.ifCond .ne 40, 3) := by decide +kernel
theorem dX4_keepIfBetter_99 : decode cX4_keepIfBetter 99 = .ok (.aload_n 0, 1) := by decide +kernel
theorem dX4_keepIfBetter_100 : decode cX4_keepIfBetter 100 = .ok (.iload 5, 2) := by decide +kernel
theorem dX4_keepIfBetter_102 : decode cX4_keepIfBetter 102 = .ok (.putfield 17, 3) := by decide +kernel
theorem dX4_keepIfBetter_105 : decode cX4_keepIfBetter 105 = .ok (.aload_n 0, 1) := by decide +kernel
theorem dX4_keepIfBetter_106 : decode cX4_keepIfBetter 106 = .ok (.iload_n 1, 1) := by decide +kernel
theorem dX4_keepIfBetter_107 : decode cX4_keepIfBetter 107 = .ok (.aload_n 0, 1) := by decide +kernel
theorem dX4_keepIfBetter_108 : decode cX4_keepIfBetter 108 = .ok (.getfield 7, 3) := by decide +kernel
theorem dX4_keepIfBetter_111 : decode cX4_keepIfBetter 111 = .ok (.getfield 42, 3) := by decide +kernel
theorem dX4_keepIfBetter_114 : decode cX4_keepIfBetter 114 = .ok (.imul, 1) := by decide +kernel
theorem dX4_keepIfBetter_115 : decode cX4_keepIfBetter 115 = .ok (.iload_n 2, 1) := by decide +kernel
theorem dX4_keepIfBetter_116 : decode cX4_keepIfBetter 116 = .ok (.iadd, 1) := by decide +kernel
theorem dX4_keepIfBetter_117 : decode cX4_keepIfBetter 117 = .ok (.putfield 59, 3) := by decide +kernel
theorem dX4_keepIfBetter_120 : decode cX4_keepIfBetter 120 = .ok (.aload_n 0, 1) := by decide +kernel
theorem dX4_keepIfBetter_121 : decode cX4_keepIfBetter 121 = .ok (.iload_n 3, 1) := by decide +kernel
theorem dX4_keepIfBetter_122 : decode cX4_keepIfBetter 122 = .ok (.aload_n 0, 1) := by decide +kernel
theorem dX4_keepIfBetter_123 : decode cX4_keepIfBetter 123 = .ok (.getfield 7, 3) := by decide +kernel
theorem dX4_keepIfBetter_126 : decode cX4_keepIfBetter 126 = .ok (.getfield 42, 3) := by decide +kernel
theorem dX4_keepIfBetter_129 : decode cX4_keepIfBetter 129 = .ok (.imul, 1) := by decide +kernel
theorem dX4_keepIfBetter_130 : decode cX4_keepIfBetter 130 = .ok (.iload 4, 2) := by decide +kernel
theorem dX4_keepIfBetter_132 : decode cX4_keepIfBetter 132 = .ok (.iadd, 1) := by decide +kernel
theorem dX4_keepIfBetter_133 : decode cX4_keepIfBetter 133 = .ok (.putfield 62, 3) := by decide +kernel
theorem dX4_keepIfBetter_136 : decode cX4_keepIfBetter 136 = .ok (.return_, 1) := by decide +kernel
theorem dX5_init_0 : decode cX5_init 0 = .ok (.aload_n 0, 1) := by decide +kernel
theorem dX5_init_1 : decode cX5_init 1 = .ok (.invokespecial 3, 3) := by decide +kernel
theorem dX5_init_4 : decode cX5_init 4 = .ok (.aload_n 0, 1) := by decide +kernel
theorem dX5_init_5 : decode cX5_init 5 = .ok (.bipush 40, 2) := by decide +kernel
theorem dX5_init_7 : decode cX5_init 7 = .ok (.newarray .int, 2) := by decide +kernel
theorem dX5_init_9 : decode cX5_init 9 = .ok (.putfield 9, 3) := by decide +kernel
theorem dX5_init_12 : decode cX5_init 12 = .ok (.return_, 1) := by decide +kernel
set_option maxRecDepth 20000 in
theorem ggX5_begin_J7_fill_53178 : GoodIn wsX5_begin wsJ7_fill_53178 := goodIn_r _ [8] (by decide +kernel) (by decide +kernel)
set_option maxRecDepth 20000 in
theorem gX5_begin_J7_fill_53178 : GoodIn wsX5_begin (va_wsS RX5 26 yJ7_fill_53178 wsJ7_fill_53178) := goodIn_app (goodIn_of _ (by decide +kernel)) ggX5_begin_J7_fill_53178
theorem dX5_begin_0 : decode cX5_begin 0 = .ok (.aload_n 0, 1) := by decide +kernel
theorem dX5_begin_1 : decode cX5_begin 1 = .ok (.iconst 1, 1) := by decide +kernel
theorem dX5_begin_2 : decode cX5_begin 2 = .ok (.putfield 15, 3) := by decide +kernel
theorem dX5_begin_5 : decode cX5_begin 5 = .ok (.aload_n 0, 1) := by decide +kernel
theorem dX5_begin_6 : decode cX5_begin 6 = .ok (.iload_n 1, 1) := by decide +kernel
theorem dX5_begin_7 : decode cX5_begin 7 = .ok (.putfield 19, 3) := by decide +kernel
theorem dX5_begin_10 : decode cX5_begin 10 = .ok (.aload_n 0, 1) := by decide +kernel
theorem dX5_begin_11 : decode cX5_begin 11 = .ok (.iload_n 2, 1) := by decide +kernel
theorem dX5_begin_12 : decode cX5_begin 12 = .ok (.putfield 23, 3) := by decide +kernel
theorem dX5_begin_15 : decode cX5_begin 15 = .ok (.aload_n 0, 1) := by decide +kernel
theorem dX5_begin_16 : decode cX5_begin 16 = .ok (.getfield 9, 3) := by decide +kernel
theorem dX5_begin_19 : decode cX5_begin 19 = .ok (.iconst 0, 1) := by decide +kernel
theorem dX5_begin_20 : decode cX5_begin 20 = .ok (.invokestatic 26, 3) := by decide +kernel
theorem dX5_begin_23 : decode cX5_begin 23 = .ok (.return_, 1) := by decide +kernel
theorem dX5_cut_0 : decode cX5_cut 0 = .ok (.aload_n 0, 1) := by decide +kernel
theorem dX5_cut_1 : decode cX5_cut 1 = .ok (.getfield 19, 3) := by decide +kernel
theorem dX5_cut_4 : decode cX5_cut 4 = .ok (.lookupswitch 34 #[(0, 28), (1, 31)], 28) := by decide +kernel
theorem dX5_cut_32 : decode cX5_cut 32 = .ok (.iload_n 1, 1) := by decide +kernel
theorem dX5_cut_33 : decode cX5_cut 33 = .ok (.i2b, 1) := by decide +kernel
theorem dX5_cut_34 : decode cX5_cut 34 = .ok (.ireturn, 1) := by decide +kernel
theorem dX5_cut_35 : decode cX5_cut 35 = .ok (.iload_n 1, 1) := by decide +kernel
theorem dX5_cut_36 : decode cX5_cut 36 = .ok (.i2s, 1) := by decide +kernel
theorem dX5_cut_37 : decode cX5_cut 37 = .ok (.ireturn, 1) := by decide +kernel
theorem dX5_cut_38 : decode cX5_cut 38 = .ok (.iload_n 1, 1) := by decide +kernel
theorem dX5_cut_39 : decode cX5_cut 39 = .ok (.ireturn, 1) := by decide +kernel
theorem dX5_reaches_0 : decode cX5_reaches 0 = .ok (.iload_n 1, 1) := by decide +kernel
theorem dX5_reaches_1 : decode cX5_reaches 1 = .ok (.ifCond .lt 29, 3) := by decide +kernel
theorem dX5_reaches_4 : decode cX5_reaches 4 = .ok (.iload_n 2, 1) := by decide +kernel
theorem dX5_reaches_5 : decode cX5_reaches 5 = .ok (.ifCond .lt 25, 3) := by decide +kernel
theorem dX5_reaches_8 : decode cX5_reaches 8 = .ok (.iload_n 1, 1) := by decide +kernel
theorem dX5_reaches_9 : decode cX5_reaches 9 = .ok (.aload_n 0, 1) := by decide +kernel
theorem dX5_reaches_10 : decode cX5_reaches 10 = .ok (.getfield 23, 3) := by decide +kernel
theorem dX5_reaches_13 : decode cX5_reaches 13 = .ok (.if_icmp .gt 17, 3) := by decide +kernel
theorem dX5_reaches_16 : decode cX5_reaches 16 = .ok (.iload_n 2, 1) := by decide +kernel
theorem dX5_reaches_17 : decode cX5_reaches 17 = .ok (.aload_n 0, 1) := by decide +kernel
theorem dX5_reaches_18 : decode cX5_reaches 18 = .ok (.getfield 23, 3) := by decide +kernel
theorem dX5_reaches_21 : decode cX5_reaches 21 = .ok (.iload_n 1, 1) := by decide +kernel
theorem dX5_reaches_22 : decode cX5_reaches 22 = .ok (.isub, 1) := by decide +kernel
theorem dX5_reaches_23 : decode cX5_reaches 23 = .ok (.if_icmp .gt 7, 3) := by decide +kernel
theorem dX5_reaches_26 : decode cX5_reaches 26 = .ok (.iconst 1, 1) := by decide +kernel
theorem dX5_reaches_27 : decode cX5_reaches 27 = .ok (.goto 4, 3) := by decide +kernel
theorem dX5_reaches_30 : decode cX5_reaches 30 = .ok (.iconst 0, 1) := by decide +kernel
theorem dX5_reaches_31 : decode cX5_reaches 31 = .ok (.ireturn, 1) := by decide +kernel
theorem dX5_faultAs_0 : decode cX5_faultAs 0 = .ok (.aload_n 0, 1) := by decide +kernel
theorem dX5_faultAs_1 : decode cX5_faultAs 1 = .ok (.getfield 15, 3) := by decide +kernel
theorem dX5_faultAs_4 : decode cX5_faultAs 4 = .ok (.ifCond .ne 5, 3) := by decide +kernel
theorem dX5_faultAs_7 : decode cX5_faultAs 7 = .ok (.iconst 1, 1) := by decide +kernel
theorem dX5_faultAs_8 : decode cX5_faultAs 8 = .ok (.ireturn, 1) := by decide +kernel
theorem dX5_faultAs_9 : decode cX5_faultAs 9 = .ok (.aload_n 0, 1) := by decide +kernel
theorem dX5_faultAs_10 : decode cX5_faultAs 10 = .ok (.getfield 19, 3) := by decide +kernel
theorem dX5_faultAs_13 : decode cX5_faultAs 13 = .ok (.iload_n 1, 1) := by decide +kernel
theorem dX5_faultAs_14 : decode cX5_faultAs 14 = .ok (.if_icmp .ne 7, 3) := by decide +kernel
theorem dX5_faultAs_17 : decode cX5_faultAs 17 = .ok (.iconst 0, 1) := by decide +kernel
theorem dX5_faultAs_18 : decode cX5_faultAs 18 = .ok (.goto 4, 3) := by decide +kernel
theorem dX5_faultAs_21 : decode cX5_faultAs 21 = .ok (.iconst 2, 1) := by decide +kernel
theorem dX5_faultAs_22 : decode cX5_faultAs 22 = .ok (.ireturn, 1) := by decide +kernel
set_option maxRecDepth 20000 in
theorem ggX5_faultOfCells_X5_faultAs : GoodIn wsX5_faultOfCells wsX5_faultAs := goodIn_r _ [5, 6, 7, 13, 14, 15, 16] (by decide +kernel) (by decide +kernel)
set_option maxRecDepth 20000 in
theorem gX5_faultOfCells_X5_faultAs : GoodIn wsX5_faultOfCells (wsV RX5 32 RX5 yX5_faultAs wsX5_faultAs) := goodIn_app (goodIn_of _ (by decide +kernel)) ggX5_faultOfCells_X5_faultAs
set_option maxRecDepth 20000 in
theorem ggX5_faultOfCells_X5_reaches : GoodIn wsX5_faultOfCells wsX5_reaches := goodIn_r _ [11, 12, 13, 14, 15, 16] (by decide +kernel) (by decide +kernel)
set_option maxRecDepth 20000 in
theorem gX5_faultOfCells_X5_reaches : GoodIn wsX5_faultOfCells (wsV RX5 36 RX5 yX5_reaches wsX5_reaches) := goodIn_app (goodIn_of _ (by decide +kernel)) ggX5_faultOfCells_X5_reaches
theorem dX5_faultOfCells_0 : decode cX5_faultOfCells 0 = .ok (.aload_n 0, 1) := by decide +kernel
theorem dX5_faultOfCells_1 : decode cX5_faultOfCells 1 = .ok (.iload_n 1, 1) := by decide +kernel
theorem dX5_faultOfCells_2 : decode cX5_faultOfCells 2 = .ok (.invokevirtual 32, 3) := by decide +kernel
theorem dX5_faultOfCells_5 : decode cX5_faultOfCells 5 = .ok (.istore 4, 2) := by decide +kernel
theorem dX5_faultOfCells_7 : decode cX5_faultOfCells 7 = .ok (.iload 4, 2) := by decide +kernel
theorem dX5_faultOfCells_9 : decode cX5_faultOfCells 9 = .ok (.ifCond .ne 15, 3) := by decide +kernel
theorem dX5_faultOfCells_12 : decode cX5_faultOfCells 12 = .ok (.aload_n 0, 1) := by decide +kernel
theorem dX5_faultOfCells_13 : decode cX5_faultOfCells 13 = .ok (.iload_n 2, 1) := by decide +kernel
theorem dX5_faultOfCells_14 : decode cX5_faultOfCells 14 = .ok (.iload_n 3, 1) := by decide +kernel
theorem dX5_faultOfCells_15 : decode cX5_faultOfCells 15 = .ok (.invokevirtual 36, 3) := by decide +kernel
theorem dX5_faultOfCells_18 : decode cX5_faultOfCells 18 = .ok (.ifCond .ne 6, 3) := by decide +kernel
theorem dX5_faultOfCells_21 : decode cX5_faultOfCells 21 = .ok (.iconst 3, 1) := by decide +kernel
theorem dX5_faultOfCells_22 : decode cX5_faultOfCells 22 = .ok (.istore 4, 2) := by decide +kernel
theorem dX5_faultOfCells_24 : decode cX5_faultOfCells 24 = .ok (.iload 4, 2) := by decide +kernel
theorem dX5_faultOfCells_26 : decode cX5_faultOfCells 26 = .ok (.ireturn, 1) := by decide +kernel
set_option maxRecDepth 20000 in
theorem ggX5_firstWrongCode_X7_isWithin : GoodIn wsX5_firstWrongCode wsX7_isWithin := goodIn_r _ [4] (by decide +kernel) (by decide +kernel)
set_option maxRecDepth 20000 in
theorem gX5_firstWrongCode_X7_isWithin_n40 : GoodIn wsX5_firstWrongCode (wsX7_isWithin) := ggX5_firstWrongCode_X7_isWithin
set_option maxRecDepth 20000 in
theorem ggX5_firstWrongCode_X5_firstWrongInRows : GoodIn wsX5_firstWrongCode wsX5_firstWrongInRows := goodIn_r _ [9, 1, 10, 11, 8, 12, 2, 3, 4, 13, 14, 15, 16] (by decide +kernel) (by decide +kernel)
set_option maxRecDepth 20000 in
theorem gX5_firstWrongCode_X5_firstWrongInRows : GoodIn wsX5_firstWrongCode (wsV RX5 44 RX5 yX5_firstWrongInRows wsX5_firstWrongInRows) := goodIn_app (goodIn_of _ (by decide +kernel)) ggX5_firstWrongCode_X5_firstWrongInRows
theorem dX5_firstWrongCode_0 : decode cX5_firstWrongCode 0 = .ok (.iload_n 2, 1) := by decide +kernel
theorem dX5_firstWrongCode_1 : decode cX5_firstWrongCode 1 = .ok (.iconst 1, 1) := by decide +kernel
theorem dX5_firstWrongCode_2 : decode cX5_firstWrongCode 2 = .ok (.if_icmp .lt 14, 3) := by decide +kernel
theorem dX5_firstWrongCode_5 : decode cX5_firstWrongCode 5 = .ok (.aload_n 0, 1) := by decide +kernel
theorem dX5_firstWrongCode_6 : decode cX5_firstWrongCode 6 = .ok (.getfield 9, 3) := by decide +kernel
theorem dX5_firstWrongCode_9 : decode cX5_firstWrongCode 9 = .ok (.iload_n 1, 1) := by decide +kernel
theorem dX5_firstWrongCode_10 : decode cX5_firstWrongCode 10 = .ok (.iaload, 1) := by decide +kernel
theorem dX5_firstWrongCode_11 : decode cX5_firstWrongCode 11 = .ok (.bipush 119, 2) := by decide +kernel
theorem dX5_firstWrongCode_13 : decode cX5_firstWrongCode 13 = .ok (.if_icmp .eq 5, 3) := by decide +kernel
theorem dX5_firstWrongCode_16 : decode cX5_firstWrongCode 16 = .ok (.iconst 0, 1) := by decide +kernel
theorem dX5_firstWrongCode_17 : decode cX5_firstWrongCode 17 = .ok (.ireturn, 1) := by decide +kernel
theorem dX5_firstWrongCode_18 : decode cX5_firstWrongCode 18 = .ok (.iload_n 2, 1) := by decide +kernel
theorem dX5_firstWrongCode_19 : decode cX5_firstWrongCode 19 = .ok (.iconst 2, 1) := by decide +kernel
theorem dX5_firstWrongCode_20 : decode cX5_firstWrongCode 20 = .ok (.if_icmp .lt 21, 3) := by decide +kernel
theorem dX5_firstWrongCode_23 : decode cX5_firstWrongCode 23 = .ok (.aload_n 0, 1) := by decide +kernel
theorem dX5_firstWrongCode_24 : decode cX5_firstWrongCode 24 = .ok (.getfield 9, 3) := by decide +kernel
theorem dX5_firstWrongCode_27 : decode cX5_firstWrongCode 27 = .ok (.iload_n 1, 1) := by decide +kernel
theorem dX5_firstWrongCode_28 : decode cX5_firstWrongCode 28 = .ok (.iconst 1, 1) := by decide +kernel
theorem dX5_firstWrongCode_29 : decode cX5_firstWrongCode 29 = .ok (.iadd, 1) := by decide +kernel
theorem dX5_firstWrongCode_30 : decode cX5_firstWrongCode 30 = .ok (.iaload, 1) := by decide +kernel
theorem dX5_firstWrongCode_31 : decode cX5_firstWrongCode 31 = .ok (.bipush 49, 2) := by decide +kernel
theorem dX5_firstWrongCode_33 : decode cX5_firstWrongCode 33 = .ok (.bipush 52, 2) := by decide +kernel
theorem dX5_firstWrongCode_35 : decode cX5_firstWrongCode 35 = .ok (.invokestatic 40, 3) := by decide +kernel
theorem dX5_firstWrongCode_38 : decode cX5_firstWrongCode 38 = .ok (.ifCond .ne 5, 3) := by decide +kernel
theorem dX5_firstWrongCode_41 : decode cX5_firstWrongCode 41 = .ok (.iconst 1, 1) := by decide +kernel
theorem dX5_firstWrongCode_42 : decode cX5_firstWrongCode 42 = .ok (.ireturn, 1) := by decide +kernel
theorem dX5_firstWrongCode_43 : decode cX5_firstWrongCode 43 = .ok (.iload_n 2, 1) := by decide +kernel
theorem dX5_firstWrongCode_44 : decode cX5_firstWrongCode 44 = .ok (.iconst 3, 1) := by decide +kernel
theorem dX5_firstWrongCode_45 : decode cX5_firstWrongCode 45 = .ok (.if_icmp .lt 21, 3) := by decide +kernel
theorem dX5_firstWrongCode_48 : decode cX5_firstWrongCode 48 = .ok (.aload_n 0, 1) := by decide +kernel
theorem dX5_firstWrongCode_49 : decode cX5_firstWrongCode 49 = .ok (.getfield 9, 3) := by decide +kernel
theorem dX5_firstWrongCode_52 : decode cX5_firstWrongCode 52 = .ok (.iload_n 1, 1) := by decide +kernel
theorem dX5_firstWrongCode_53 : decode cX5_firstWrongCode 53 = .ok (.iconst 2, 1) := by decide +kernel
theorem dX5_firstWrongCode_54 : decode cX5_firstWrongCode 54 = .ok (.iadd, 1) := by decide +kernel
theorem dX5_firstWrongCode_55 : decode cX5_firstWrongCode 55 = .ok (.iaload, 1) := by decide +kernel
theorem dX5_firstWrongCode_56 : decode cX5_firstWrongCode 56 = .ok (.bipush 50, 2) := by decide +kernel
theorem dX5_firstWrongCode_58 : decode cX5_firstWrongCode 58 = .ok (.bipush 54, 2) := by decide +kernel
theorem dX5_firstWrongCode_60 : decode cX5_firstWrongCode 60 = .ok (.invokestatic 40, 3) := by decide +kernel
theorem dX5_firstWrongCode_63 : decode cX5_firstWrongCode 63 = .ok (.ifCond .ne 5, 3) := by decide +kernel
theorem dX5_firstWrongCode_66 : decode cX5_firstWrongCode 66 = .ok (.iconst 2, 1) := by decide +kernel
theorem dX5_firstWrongCode_67 : decode cX5_firstWrongCode 67 = .ok (.ireturn, 1) := by decide +kernel
theorem dX5_firstWrongCode_68 : decode cX5_firstWrongCode 68 = .ok (.aload_n 0, 1) := by decide +kernel
theorem dX5_firstWrongCode_69 : decode cX5_firstWrongCode 69 = .ok (.iload_n 1, 1) := by decide +kernel
theorem dX5_firstWrongCode_70 : decode cX5_firstWrongCode 70 = .ok (.iload_n 2, 1) := by decide +kernel
theorem dX5_firstWrongCode_71 : decode cX5_firstWrongCode 71 = .ok (.aload_n 0, 1) := by decide +kernel
theorem dX5_firstWrongCode_72 : decode cX5_firstWrongCode 72 = .ok (.getfield 9, 3) := by decide +kernel
theorem dX5_firstWrongCode_75 : decode cX5_firstWrongCode 75 = .ok (.iload_n 1, 1) := by decide +kernel
theorem dX5_firstWrongCode_76 : decode cX5_firstWrongCode 76 = .ok (.iconst 1, 1) := by decide +kernel
theorem dX5_firstWrongCode_77 : decode cX5_firstWrongCode 77 = .ok (.iadd, 1) := by decide +kernel
theorem dX5_firstWrongCode_78 : decode cX5_firstWrongCode 78 = .ok (.iaload, 1) := by decide +kernel
theorem dX5_firstWrongCode_79 : decode cX5_firstWrongCode 79 = .ok (.bipush 48, 2) := by decide +kernel
theorem dX5_firstWrongCode_81 : decode cX5_firstWrongCode 81 = .ok (.isub, 1) := by decide +kernel
theorem dX5_firstWrongCode_82 : decode cX5_firstWrongCode 82 = .ok (.aload_n 0, 1) := by decide +kernel
theorem dX5_firstWrongCode_83 : decode cX5_firstWrongCode 83 = .ok (.getfield 9, 3) := by decide +kernel
theorem dX5_firstWrongCode_86 : decode cX5_firstWrongCode 86 = .ok (.iload_n 1, 1) := by decide +kernel
theorem dX5_firstWrongCode_87 : decode cX5_firstWrongCode 87 = .ok (.iconst 2, 1) := by decide +kernel
theorem dX5_firstWrongCode_88 : decode cX5_firstWrongCode 88 = .ok (.iadd, 1) := by decide +kernel
theorem dX5_firstWrongCode_89 : decode cX5_firstWrongCode 89 = .ok (.iaload, 1) := by decide +kernel
theorem dX5_firstWrongCode_90 : decode cX5_firstWrongCode 90 = .ok (.bipush 48, 2) := by decide +kernel
theorem dX5_firstWrongCode_92 : decode cX5_firstWrongCode 92 = .ok (.isub, 1) := by decide +kernel
theorem dX5_firstWrongCode_93 : decode cX5_firstWrongCode 93 = .ok (.invokevirtual 44, 3) := by decide +kernel
theorem dX5_firstWrongCode_96 : decode cX5_firstWrongCode 96 = .ok (.ireturn, 1) := by decide +kernel
set_option maxRecDepth 20000 in
theorem ggX5_firstWrongInRows_X5_fits : GoodIn wsX5_firstWrongInRows wsX5_fits := goodIn_r _ [5, 6, 7, 8] (by decide +kernel) (by decide +kernel)
set_option maxRecDepth 20000 in
theorem gX5_firstWrongInRows_X5_fits : GoodIn wsX5_firstWrongInRows (va_wsS RX5 48 yX5_fits wsX5_fits) := goodIn_app (goodIn_of _ (by decide +kernel)) ggX5_firstWrongInRows_X5_fits
theorem dX5_firstWrongInRows_0 : decode cX5_firstWrongInRows 0 = .ok (.iconst 3, 1) := by decide +kernel
theorem dX5_firstWrongInRows_1 : decode cX5_firstWrongInRows 1 = .ok (.istore 5, 2) := by decide +kernel
theorem dX5_firstWrongInRows_3 : decode cX5_firstWrongInRows 3 = .ok (.iconst 0, 1) := by decide +kernel
theorem dX5_firstWrongInRows_4 : decode cX5_firstWrongInRows 4 = .ok (.istore 6, 2) := by decide +kernel
theorem dX5_firstWrongInRows_6 : decode cX5_firstWrongInRows 6 = .ok (.iload 6, 2) := by decide +kernel
theorem dX5_firstWrongInRows_8 : decode cX5_firstWrongInRows 8 = .ok (.iload_n 3, 1) := by decide +kernel
theorem dX5_firstWrongInRows_9 : decode cX5_firstWrongInRows 9 = .ok (.if_icmp .ge 54, 3) := by decide +kernel
theorem dX5_firstWrongInRows_12 : decode cX5_firstWrongInRows 12 = .ok (.iconst (-1), 1) := by decide +kernel
theorem dX5_firstWrongInRows_13 : decode cX5_firstWrongInRows 13 = .ok (.istore 7, 2) := by decide +kernel
theorem dX5_firstWrongInRows_15 : decode cX5_firstWrongInRows 15 = .ok (.iload 7, 2) := by decide +kernel
theorem dX5_firstWrongInRows_17 : decode cX5_firstWrongInRows 17 = .ok (.iload 4, 2) := by decide +kernel
theorem dX5_firstWrongInRows_19 : decode cX5_firstWrongInRows 19 = .ok (.if_icmp .ge 38, 3) := by decide +kernel
theorem dX5_firstWrongInRows_22 : decode cX5_firstWrongInRows 22 = .ok (.iload 5, 2) := by decide +kernel
theorem dX5_firstWrongInRows_24 : decode cX5_firstWrongInRows 24 = .ok (.iload_n 2, 1) := by decide +kernel
theorem dX5_firstWrongInRows_25 : decode cX5_firstWrongInRows 25 = .ok (.if_icmp .ge 20, 3) := by decide +kernel
theorem dX5_firstWrongInRows_28 : decode cX5_firstWrongInRows 28 = .ok (.aload_n 0, 1) := by decide +kernel
theorem dX5_firstWrongInRows_29 : decode cX5_firstWrongInRows 29 = .ok (.getfield 9, 3) := by decide +kernel
theorem dX5_firstWrongInRows_32 : decode cX5_firstWrongInRows 32 = .ok (.iload_n 1, 1) := by decide +kernel
theorem dX5_firstWrongInRows_33 : decode cX5_firstWrongInRows 33 = .ok (.iload 5, 2) := by decide +kernel
theorem dX5_firstWrongInRows_35 : decode cX5_firstWrongInRows 35 = .ok (.iadd, 1) := by decide +kernel
theorem dX5_firstWrongInRows_36 : decode cX5_firstWrongInRows 36 = .ok (.iaload, 1) := by decide +kernel
theorem dX5_firstWrongInRows_37 : decode cX5_firstWrongInRows 37 = .ok (.iload 7, 2) := by decide +kernel
theorem dX5_firstWrongInRows_39 : decode cX5_firstWrongInRows 39 = .ok (.invokestatic 48, 3) := by decide +kernel
theorem dX5_firstWrongInRows_42 : decode cX5_firstWrongInRows 42 = .ok (.ifCond .ne 6, 3) := by decide +kernel
theorem dX5_firstWrongInRows_45 : decode cX5_firstWrongInRows 45 = .ok (.iload 5, 2) := by decide +kernel
theorem dX5_firstWrongInRows_47 : decode cX5_firstWrongInRows 47 = .ok (.ireturn, 1) := by decide +kernel
theorem dX5_firstWrongInRows_48 : decode cX5_firstWrongInRows 48 = .ok (.iinc 5 1, 3) := by decide +kernel
theorem dX5_firstWrongInRows_51 : decode cX5_firstWrongInRows 51 = .ok (.iinc 7 1, 3) := by decide +kernel
theorem dX5_firstWrongInRows_54 : decode cX5_firstWrongInRows 54 = .ok (.goto (-39), 3) := by decide +kernel
theorem dX5_firstWrongInRows_57 : decode cX5_firstWrongInRows 57 = .ok (.iinc 6 1, 3) := by decide +kernel
theorem dX5_firstWrongInRows_60 : decode cX5_firstWrongInRows 60 = .ok (.goto (-54), 3) := by decide +kernel
theorem dX5_firstWrongInRows_63 : decode cX5_firstWrongInRows 63 = .ok (.iload 5, 2) := by decide +kernel
theorem dX5_firstWrongInRows_65 : decode cX5_firstWrongInRows 65 = .ok (.iload_n 2, 1) := by decide +kernel
theorem dX5_firstWrongInRows_66 : decode cX5_firstWrongInRows 66 = .ok (.if_icmp .ge 8, 3) := by decide +kernel
theorem dX5_firstWrongInRows_69 : decode cX5_firstWrongInRows 69 = .ok (.iload 5, 2) := by decide +kernel
theorem dX5_firstWrongInRows_71 : decode cX5_firstWrongInRows 71 = .ok (.goto 4, 3) := by decide +kernel
theorem dX5_firstWrongInRows_74 : decode cX5_firstWrongInRows 74 = .ok (.iconst (-1), 1) := by decide +kernel
theorem dX5_firstWrongInRows_75 : decode cX5_firstWrongInRows 75 = .ok (.ireturn, 1) := by decide +kernel
set_option maxRecDepth 20000 in
theorem ggX5_fits_X7_isWithin : GoodIn wsX5_fits wsX7_isWithin := goodIn_r _ [3] (by decide +kernel) (by decide +kernel)
set_option maxRecDepth 20000 in
theorem gX5_fits_X7_isWithin_n40 : GoodIn wsX5_fits (wsX7_isWithin) := ggX5_fits_X7_isWithin
theorem dX5_fits_0 : decode cX5_fits 0 = .ok (.iload_n 1, 1) := by decide +kernel
theorem dX5_fits_1 : decode cX5_fits 1 = .ok (.ifCond .ge 17, 3) := by decide +kernel
theorem dX5_fits_4 : decode cX5_fits 4 = .ok (.iload_n 0, 1) := by decide +kernel
theorem dX5_fits_5 : decode cX5_fits 5 = .ok (.bipush 59, 2) := by decide +kernel
theorem dX5_fits_7 : decode cX5_fits 7 = .ok (.if_icmp .ne 7, 3) := by decide +kernel
theorem dX5_fits_10 : decode cX5_fits 10 = .ok (.iconst 1, 1) := by decide +kernel
theorem dX5_fits_11 : decode cX5_fits 11 = .ok (.goto 15, 3) := by decide +kernel
theorem dX5_fits_14 : decode cX5_fits 14 = .ok (.iconst 0, 1) := by decide +kernel
theorem dX5_fits_15 : decode cX5_fits 15 = .ok (.goto 11, 3) := by decide +kernel
theorem dX5_fits_18 : decode cX5_fits 18 = .ok (.iload_n 0, 1) := by decide +kernel
theorem dX5_fits_19 : decode cX5_fits 19 = .ok (.bipush 48, 2) := by decide +kernel
theorem dX5_fits_21 : decode cX5_fits 21 = .ok (.bipush 57, 2) := by decide +kernel
theorem dX5_fits_23 : decode cX5_fits 23 = .ok (.invokestatic 40, 3) := by decide +kernel
theorem dX5_fits_26 : decode cX5_fits 26 = .ok (.ireturn, 1) := by decide +kernel
set_option maxRecDepth 20000 in
theorem ggX6_init_X0_init : GoodIn wsX6_init wsX0_init := goodIn_r _ [15, 16, 2, 3] (by decide +kernel) (by decide +kernel)
set_option maxRecDepth 20000 in
theorem gX6_init_X0_init_n27 : GoodIn wsX6_init (wsX0_init) := ggX6_init_X0_init
set_option maxRecDepth 20000 in
theorem ggX6_init_X1_init : GoodIn wsX6_init wsX1_init := goodIn_r _ [18, 19, 2, 3, 8, 20, 37, 38] (by decide +kernel) (by decide +kernel)
set_option maxRecDepth 20000 in
theorem gX6_init_X1_init_n28 : GoodIn wsX6_init (wsX1_init) := ggX6_init_X1_init
theorem dX6_init_0 : decode cX6_init 0 = .ok (.aload_n 0, 1) := by decide +kernel
theorem dX6_init_1 : decode cX6_init 1 = .ok (.invokespecial 3, 3) := by decide +kernel
theorem dX6_init_4 : decode cX6_init 4 = .ok (.aload_n 0, 1) := by decide +kernel
theorem dX6_init_5 : decode cX6_init 5 = .ok (.bipush 24, 2) := by decide +kernel
theorem dX6_init_7 : decode cX6_init 7 = .ok (.anewarray 9, 3) := by decide +kernel
theorem dX6_init_10 : decode cX6_init 10 = .ok (.putfield 11, 3) := by decide +kernel
theorem dX6_init_13 : decode cX6_init 13 = .ok (.aload_n 0, 1) := by decide +kernel
theorem dX6_init_14 : decode cX6_init 14 = .ok (.bipush 6, 2) := by decide +kernel
theorem dX6_init_16 : decode cX6_init 16 = .ok (.anewarray 17, 3) := by decide +kernel
theorem dX6_init_19 : decode cX6_init 19 = .ok (.putfield 19, 3) := by decide +kernel
theorem dX6_init_22 : decode cX6_init 22 = .ok (.aload_n 0, 1) := by decide +kernel
theorem dX6_init_23 : decode cX6_init 23 = .ok (.bipush 12, 2) := by decide +kernel
theorem dX6_init_25 : decode cX6_init 25 = .ok (.newarray .int, 2) := by decide +kernel
theorem dX6_init_27 : decode cX6_init 27 = .ok (.putfield 23, 3) := by decide +kernel
theorem dX6_init_30 : decode cX6_init 30 = .ok (.iconst 0, 1) := by decide +kernel
theorem dX6_init_31 : decode cX6_init 31 = .ok (.istore_n 1, 1) := by decide +kernel
theorem dX6_init_32 : decode cX6_init 32 = .ok (.iload_n 1, 1) := by decide +kernel
theorem dX6_init_33 : decode cX6_init 33 = .ok (.bipush 24, 2) := by decide +kernel
theorem dX6_init_35 : decode cX6_init 35 = .ok (.if_icmp .ge 22, 3) := by decide +kernel
theorem dX6_init_38 : decode cX6_init 38 = .ok (.aload_n 0, 1) := by decide +kernel
theorem dX6_init_39 : decode cX6_init 39 = .ok (.getfield 11, 3) := by decide +kernel
theorem dX6_init_42 : decode cX6_init 42 = .ok (.iload_n 1, 1) := by decide +kernel
theorem dX6_init_43 : decode cX6_init 43 = .ok (.new 9, 3) := by decide +kernel
theorem dX6_init_46 : decode cX6_init 46 = .ok (.dup, 1) := by decide +kernel
theorem dX6_init_47 : decode cX6_init 47 = .ok (.invokespecial 27, 3) := by decide +kernel
theorem dX6_init_50 : decode cX6_init 50 = .ok (.aastore, 1) := by decide +kernel
theorem dX6_init_51 : decode cX6_init 51 = .ok (.iinc 1 1, 3) := by decide +kernel
theorem dX6_init_54 : decode cX6_init 54 = .ok (.goto (-22), 3) := by decide +kernel
theorem dX6_init_57 : decode cX6_init 57 = .ok (.iconst 0, 1) := by decide +kernel
theorem dX6_init_58 : decode cX6_init 58 = .ok (.istore_n 1, 1) := by decide +kernel
theorem dX6_init_59 : decode cX6_init 59 = .ok (.iload_n 1, 1) := by decide +kernel
theorem dX6_init_60 : decode cX6_init 60 = .ok (.bipush 6, 2) := by decide +kernel
theorem dX6_init_62 : decode cX6_init 62 = .ok (.if_icmp .ge 22, 3) := by decide +kernel
theorem dX6_init_65 : decode cX6_init 65 = .ok (.aload_n 0, 1) := by decide +kernel
theorem dX6_init_66 : decode cX6_init 66 = .ok (.getfield 19, 3) := by decide +kernel
theorem dX6_init_69 : decode cX6_init 69 = .ok (.iload_n 1, 1) := by decide +kernel
theorem dX6_init_70 : decode cX6_init 70 = .ok (.new 17, 3) := by decide +kernel
theorem dX6_init_73 : decode cX6_init 73 = .ok (.dup, 1) := by decide +kernel
theorem dX6_init_74 : decode cX6_init 74 = .ok (.invokespecial 28, 3) := by decide +kernel
theorem dX6_init_77 : decode cX6_init 77 = .ok (.aastore, 1) := by decide +kernel
theorem dX6_init_78 : decode cX6_init 78 = .ok (.iinc 1 1, 3) := by decide +kernel
theorem dX6_init_81 : decode cX6_init 81 = .ok (.goto (-22), 3) := by decide +kernel
theorem dX6_init_84 : decode cX6_init 84 = .ok (.return_, 1) := by decide +kernel
set_option maxRecDepth 20000 in
theorem ggX6_makeAnew_X0_begin : GoodIn wsX6_makeAnew wsX0_begin := goodIn_r _ [15, 16, 17, 18, 19, 20, 14, 21, 22, 23, 24, 48, 49, 50, 51, 52] (by decide +kernel) (by decide +kernel)
set_option maxRecDepth 20000 in
theorem gX6_makeAnew_X0_begin : GoodIn wsX6_makeAnew (wsV RX6 44 RX0 yX0_begin wsX0_begin) := goodIn_app (goodIn_of _ (by decide +kernel)) ggX6_makeAnew_X0_begin
set_option maxRecDepth 20000 in
theorem ggX6_makeAnew_X6_addCoat : GoodIn wsX6_makeAnew wsX6_addCoat := goodIn_r _ [29, 30, 10, 31, 32, 37, 38, 39, 40, 41, 42, 43, 44, 45, 46, 47, 53, 54] (by decide +kernel) (by decide +kernel)
set_option maxRecDepth 20000 in
theorem gX6_makeAnew_X6_addCoat : GoodIn wsX6_makeAnew (wsV RX6 63 RX6 yX6_addCoat wsX6_addCoat) := goodIn_app (goodIn_of _ (by decide +kernel)) ggX6_makeAnew_X6_addCoat
theorem dX6_makeAnew_0 : decode cX6_makeAnew 0 = .ok (.aload_n 0, 1) := by decide +kernel
theorem dX6_makeAnew_1 : decode cX6_makeAnew 1 = .ok (.aload_n 1, 1) := by decide +kernel
theorem dX6_makeAnew_2 : decode cX6_makeAnew 2 = .ok (.getfield 29, 3) := by decide +kernel
theorem dX6_makeAnew_5 : decode cX6_makeAnew 5 = .ok (.iload_n 2, 1) := by decide +kernel
theorem dX6_makeAnew_6 : decode cX6_makeAnew 6 = .ok (.iconst 1, 1) := by decide +kernel
theorem dX6_makeAnew_7 : decode cX6_makeAnew 7 = .ok (.iadd, 1) := by decide +kernel
theorem dX6_makeAnew_8 : decode cX6_makeAnew 8 = .ok (.iaload, 1) := by decide +kernel
theorem dX6_makeAnew_9 : decode cX6_makeAnew 9 = .ok (.bipush 48, 2) := by decide +kernel
theorem dX6_makeAnew_11 : decode cX6_makeAnew 11 = .ok (.isub, 1) := by decide +kernel
theorem dX6_makeAnew_12 : decode cX6_makeAnew 12 = .ok (.putfield 34, 3) := by decide +kernel
theorem dX6_makeAnew_15 : decode cX6_makeAnew 15 = .ok (.aload_n 0, 1) := by decide +kernel
theorem dX6_makeAnew_16 : decode cX6_makeAnew 16 = .ok (.aload_n 1, 1) := by decide +kernel
theorem dX6_makeAnew_17 : decode cX6_makeAnew 17 = .ok (.getfield 29, 3) := by decide +kernel
theorem dX6_makeAnew_20 : decode cX6_makeAnew 20 = .ok (.iload_n 2, 1) := by decide +kernel
theorem dX6_makeAnew_21 : decode cX6_makeAnew 21 = .ok (.iconst 2, 1) := by decide +kernel
theorem dX6_makeAnew_22 : decode cX6_makeAnew 22 = .ok (.iadd, 1) := by decide +kernel
theorem dX6_makeAnew_23 : decode cX6_makeAnew 23 = .ok (.iaload, 1) := by decide +kernel
theorem dX6_makeAnew_24 : decode cX6_makeAnew 24 = .ok (.bipush 48, 2) := by decide +kernel
theorem dX6_makeAnew_26 : decode cX6_makeAnew 26 = .ok (.isub, 1) := by decide +kernel
theorem dX6_makeAnew_27 : decode cX6_makeAnew 27 = .ok (.putfield 38, 3) := by decide +kernel
theorem dX6_makeAnew_30 : decode cX6_makeAnew 30 = .ok (.aload_n 0, 1) := by decide +kernel
theorem dX6_makeAnew_31 : decode cX6_makeAnew 31 = .ok (.aload_n 0, 1) := by decide +kernel
theorem dX6_makeAnew_32 : decode cX6_makeAnew 32 = .ok (.getfield 34, 3) := by decide +kernel
theorem dX6_makeAnew_35 : decode cX6_makeAnew 35 = .ok (.aload_n 0, 1) := by decide +kernel
theorem dX6_makeAnew_36 : decode cX6_makeAnew 36 = .ok (.getfield 38, 3) := by decide +kernel
theorem dX6_makeAnew_39 : decode cX6_makeAnew 39 = .ok (.imul, 1) := by decide +kernel
theorem dX6_makeAnew_40 : decode cX6_makeAnew 40 = .ok (.putfield 41, 3) := by decide +kernel
theorem dX6_makeAnew_43 : decode cX6_makeAnew 43 = .ok (.iload_n 2, 1) := by decide +kernel
theorem dX6_makeAnew_44 : decode cX6_makeAnew 44 = .ok (.iconst 3, 1) := by decide +kernel
theorem dX6_makeAnew_45 : decode cX6_makeAnew 45 = .ok (.iadd, 1) := by decide +kernel
theorem dX6_makeAnew_46 : decode cX6_makeAnew 46 = .ok (.istore_n 3, 1) := by decide +kernel
theorem dX6_makeAnew_47 : decode cX6_makeAnew 47 = .ok (.iconst 0, 1) := by decide +kernel
theorem dX6_makeAnew_48 : decode cX6_makeAnew 48 = .ok (.istore 4, 2) := by decide +kernel
theorem dX6_makeAnew_50 : decode cX6_makeAnew 50 = .ok (.iload 4, 2) := by decide +kernel
theorem dX6_makeAnew_52 : decode cX6_makeAnew 52 = .ok (.aload_n 0, 1) := by decide +kernel
theorem dX6_makeAnew_53 : decode cX6_makeAnew 53 = .ok (.getfield 34, 3) := by decide +kernel
theorem dX6_makeAnew_56 : decode cX6_makeAnew 56 = .ok (.if_icmp .ge 60, 3) := by decide +kernel
theorem dX6_makeAnew_59 : decode cX6_makeAnew 59 = .ok (.iinc 3 1, 3) := by decide +kernel
theorem dX6_makeAnew_62 : decode cX6_makeAnew 62 = .ok (.iconst 0, 1) := by decide +kernel
theorem dX6_makeAnew_63 : decode cX6_makeAnew 63 = .ok (.istore 5, 2) := by decide +kernel
theorem dX6_makeAnew_65 : decode cX6_makeAnew 65 = .ok (.iload 5, 2) := by decide +kernel
theorem dX6_makeAnew_67 : decode cX6_makeAnew 67 = .ok (.aload_n 0, 1) := by decide +kernel
theorem dX6_makeAnew_68 : decode cX6_makeAnew 68 = .ok (.getfield 38, 3) := by decide +kernel
theorem dX6_makeAnew_71 : decode cX6_makeAnew 71 = .ok (.if_icmp .ge 39, 3) := by decide +kernel
theorem dX6_makeAnew_74 : decode cX6_makeAnew 74 = .ok (.aload_n 0, 1) := by decide +kernel
theorem dX6_makeAnew_75 : decode cX6_makeAnew 75 = .ok (.getfield 11, 3) := by decide +kernel
theorem dX6_makeAnew_78 : decode cX6_makeAnew 78 = .ok (.iload 4, 2) := by decide +kernel
theorem dX6_makeAnew_80 : decode cX6_makeAnew 80 = .ok (.aload_n 0, 1) := by decide +kernel
theorem dX6_makeAnew_81 : decode cX6_makeAnew 81 = .ok (.getfield 38, 3) := by decide +kernel
theorem dX6_makeAnew_84 : decode cX6_makeAnew 84 = .ok (.imul, 1) := by decide +kernel
theorem dX6_makeAnew_85 : decode cX6_makeAnew 85 = .ok (.iload 5, 2) := by decide +kernel
theorem dX6_makeAnew_87 : decode cX6_makeAnew 87 = .ok (.iadd, 1) := by decide +kernel
theorem dX6_makeAnew_88 : decode cX6_makeAnew 88 = .ok (.aaload, 1) := by decide +kernel
theorem dX6_makeAnew_89 : decode cX6_makeAnew 89 = .ok (.aload_n 1, 1) := by decide +kernel
theorem dX6_makeAnew_90 : decode cX6_makeAnew 90 = .ok (.getfield 29, 3) := by decide +kernel
theorem dX6_makeAnew_93 : decode cX6_makeAnew 93 = .ok (.iload_n 3, 1) := by decide +kernel
theorem dX6_makeAnew_94 : decode cX6_makeAnew 94 = .ok (.iaload, 1) := by decide +kernel
theorem dX6_makeAnew_95 : decode cX6_makeAnew 95 = .ok (.bipush 48, 2) := by decide +kernel
theorem dX6_makeAnew_97 : decode cX6_makeAnew 97 = .ok (.isub, 1) := by decide +kernel
theorem dX6_makeAnew_98 : decode cX6_makeAnew 98 = .ok (.invokevirtual 44, 3) := by decide +kernel
theorem dX6_makeAnew_101 : decode cX6_makeAnew 101 = .ok (.iinc 3 1, 3) := by decide +kernel
theorem dX6_makeAnew_104 : decode cX6_makeAnew 104 = .ok (.iinc 5 1, 3) := by decide +kernel
theorem dX6_makeAnew_107 : decode cX6_makeAnew 107 = .ok (.goto (-42), 3) := by decide +kernel
theorem dX6_makeAnew_110 : decode cX6_makeAnew 110 = .ok (.iinc 4 1, 3) := by decide +kernel
theorem dX6_makeAnew_113 : decode cX6_makeAnew 113 = .ok (.goto (-63), 3) := by decide +kernel
theorem dX6_makeAnew_116 : decode cX6_makeAnew 116 = .ok (.aload_n 0, 1) := by decide +kernel
theorem dX6_makeAnew_117 : decode cX6_makeAnew 117 = .ok (.iconst 0, 1) := by decide +kernel
theorem dX6_makeAnew_118 : decode cX6_makeAnew 118 = .ok (.putfield 48, 3) := by decide +kernel
theorem dX6_makeAnew_121 : decode cX6_makeAnew 121 = .ok (.aload_n 0, 1) := by decide +kernel
theorem dX6_makeAnew_122 : decode cX6_makeAnew 122 = .ok (.iconst 0, 1) := by decide +kernel
theorem dX6_makeAnew_123 : decode cX6_makeAnew 123 = .ok (.putfield 51, 3) := by decide +kernel
theorem dX6_makeAnew_126 : decode cX6_makeAnew 126 = .ok (.aload_n 0, 1) := by decide +kernel
theorem dX6_makeAnew_127 : decode cX6_makeAnew 127 = .ok (.bipush 10, 2) := by decide +kernel
theorem dX6_makeAnew_129 : decode cX6_makeAnew 129 = .ok (.putfield 54, 3) := by decide +kernel
theorem dX6_makeAnew_132 : decode cX6_makeAnew 132 = .ok (.aload_n 0, 1) := by decide +kernel
theorem dX6_makeAnew_133 : decode cX6_makeAnew 133 = .ok (.iconst 0, 1) := by decide +kernel
theorem dX6_makeAnew_134 : decode cX6_makeAnew 134 = .ok (.putfield 57, 3) := by decide +kernel
theorem dX6_makeAnew_137 : decode cX6_makeAnew 137 = .ok (.aload_n 0, 1) := by decide +kernel
theorem dX6_makeAnew_138 : decode cX6_makeAnew 138 = .ok (.iconst 0, 1) := by decide +kernel
theorem dX6_makeAnew_139 : decode cX6_makeAnew 139 = .ok (.putfield 60, 3) := by decide +kernel
theorem dX6_makeAnew_142 : decode cX6_makeAnew 142 = .ok (.aload_n 0, 1) := by decide +kernel
theorem dX6_makeAnew_143 : decode cX6_makeAnew 143 = .ok (.iconst 0, 1) := by decide +kernel
theorem dX6_makeAnew_144 : decode cX6_makeAnew 144 = .ok (.bipush 90, 2) := by decide +kernel
theorem dX6_makeAnew_146 : decode cX6_makeAnew 146 = .ok (.bipush 90, 2) := by decide +kernel
theorem dX6_makeAnew_148 : decode cX6_makeAnew 148 = .ok (.bipush 90, 2) := by decide +kernel
theorem dX6_makeAnew_150 : decode cX6_makeAnew 150 = .ok (.invokevirtual 63, 3) := by decide +kernel
theorem dX6_makeAnew_153 : decode cX6_makeAnew 153 = .ok (.pop, 1) := by decide +kernel
theorem dX6_makeAnew_154 : decode cX6_makeAnew 154 = .ok (.return_, 1) := by decide +kernel
theorem dX6_stands_0 : decode cX6_stands 0 = .ok (.aload_n 0, 1) := by decide +kernel
theorem dX6_stands_1 : decode cX6_stands 1 = .ok (.getfield 41, 3) := by decide +kernel
theorem dX6_stands_4 : decode cX6_stands 4 = .ok (.ifCond .le 7, 3) := by decide +kernel
theorem dX6_stands_7 : decode cX6_stands 7 = .ok (.iconst 1, 1) := by decide +kernel
theorem dX6_stands_8 : decode cX6_stands 8 = .ok (.goto 4, 3) := by decide +kernel
theorem dX6_stands_11 : decode cX6_stands 11 = .ok (.iconst 0, 1) := by decide +kernel
theorem dX6_stands_12 : decode cX6_stands 12 = .ok (.ireturn, 1) := by decide +kernel
theorem dX6_columnOf_0 : decode cX6_columnOf 0 = .ok (.aload_n 0, 1) := by decide +kernel
theorem dX6_columnOf_1 : decode cX6_columnOf 1 = .ok (.getfield 38, 3) := by decide +kernel
theorem dX6_columnOf_4 : decode cX6_columnOf 4 = .ok (.iconst 1, 1) := by decide +kernel
theorem dX6_columnOf_5 : decode cX6_columnOf 5 = .ok (.if_icmp .ge 7, 3) := by decide +kernel
theorem dX6_columnOf_8 : decode cX6_columnOf 8 = .ok (.iconst 0, 1) := by decide +kernel
theorem dX6_columnOf_9 : decode cX6_columnOf 9 = .ok (.goto 9, 3) := by decide +kernel
theorem dX6_columnOf_12 : decode cX6_columnOf 12 = .ok (.iload_n 1, 1) := by decide +kernel
theorem dX6_columnOf_13 : decode cX6_columnOf 13 = .ok (.aload_n 0, 1) := by decide +kernel
theorem dX6_columnOf_14 : decode cX6_columnOf 14 = .ok (.getfield 38, 3) := by decide +kernel
theorem dX6_columnOf_17 : decode cX6_columnOf 17 = .ok (.irem, 1) := by decide +kernel
theorem dX6_columnOf_18 : decode cX6_columnOf 18 = .ok (.ireturn, 1) := by decide +kernel
theorem dX6_rowOf_0 : decode cX6_rowOf 0 = .ok (.aload_n 0, 1) := by decide +kernel
theorem dX6_rowOf_1 : decode cX6_rowOf 1 = .ok (.getfield 38, 3) := by decide +kernel
theorem dX6_rowOf_4 : decode cX6_rowOf 4 = .ok (.iconst 1, 1) := by decide +kernel
theorem dX6_rowOf_5 : decode cX6_rowOf 5 = .ok (.if_icmp .ge 7, 3) := by decide +kernel
theorem dX6_rowOf_8 : decode cX6_rowOf 8 = .ok (.iconst 0, 1) := by decide +kernel
theorem dX6_rowOf_9 : decode cX6_rowOf 9 = .ok (.goto 9, 3) := by decide +kernel
theorem dX6_rowOf_12 : decode cX6_rowOf 12 = .ok (.iload_n 1, 1) := by decide +kernel
theorem dX6_rowOf_13 : decode cX6_rowOf 13 = .ok (.aload_n 0, 1) := by decide +kernel
theorem dX6_rowOf_14 : decode cX6_rowOf 14 = .ok (.getfield 38, 3) := by decide +kernel
theorem dX6_rowOf_17 : decode cX6_rowOf 17 = .ok (.idiv, 1) := by decide +kernel
theorem dX6_rowOf_18 : decode cX6_rowOf 18 = .ok (.ireturn, 1) := by decide +kernel
theorem dX6_hasCell_0 : decode cX6_hasCell 0 = .ok (.iload_n 1, 1) := by decide +kernel
theorem dX6_hasCell_1 : decode cX6_hasCell 1 = .ok (.ifCond .lt 15, 3) := by decide +kernel
theorem dX6_hasCell_4 : decode cX6_hasCell 4 = .ok (.iload_n 1, 1) := by decide +kernel
theorem dX6_hasCell_5 : decode cX6_hasCell 5 = .ok (.aload_n 0, 1) := by decide +kernel
theorem dX6_hasCell_6 : decode cX6_hasCell 6 = .ok (.getfield 41, 3) := by decide +kernel
theorem dX6_hasCell_9 : decode cX6_hasCell 9 = .ok (.if_icmp .ge 7, 3) := by decide +kernel
theorem dX6_hasCell_12 : decode cX6_hasCell 12 = .ok (.iconst 1, 1) := by decide +kernel
theorem dX6_hasCell_13 : decode cX6_hasCell 13 = .ok (.goto 4, 3) := by decide +kernel
theorem dX6_hasCell_16 : decode cX6_hasCell 16 = .ok (.iconst 0, 1) := by decide +kernel
theorem dX6_hasCell_17 : decode cX6_hasCell 17 = .ok (.ireturn, 1) := by decide +kernel
theorem dX6_hasCoat_0 : decode cX6_hasCoat 0 = .ok (.iload_n 1, 1) := by decide +kernel
theorem dX6_hasCoat_1 : decode cX6_hasCoat 1 = .ok (.ifCond .lt 15, 3) := by decide +kernel
theorem dX6_hasCoat_4 : decode cX6_hasCoat 4 = .ok (.iload_n 1, 1) := by decide +kernel
theorem dX6_hasCoat_5 : decode cX6_hasCoat 5 = .ok (.aload_n 0, 1) := by decide +kernel
theorem dX6_hasCoat_6 : decode cX6_hasCoat 6 = .ok (.getfield 60, 3) := by decide +kernel
theorem dX6_hasCoat_9 : decode cX6_hasCoat 9 = .ok (.if_icmp .ge 7, 3) := by decide +kernel
theorem dX6_hasCoat_12 : decode cX6_hasCoat 12 = .ok (.iconst 1, 1) := by decide +kernel
theorem dX6_hasCoat_13 : decode cX6_hasCoat 13 = .ok (.goto 4, 3) := by decide +kernel
theorem dX6_hasCoat_16 : decode cX6_hasCoat 16 = .ok (.iconst 0, 1) := by decide +kernel
theorem dX6_hasCoat_17 : decode cX6_hasCoat 17 = .ok (.ireturn, 1) := by decide +kernel
theorem dX6_hasLight_0 : decode cX6_hasLight 0 = .ok (.iload_n 1, 1) := by decide +kernel
theorem dX6_hasLight_1 : decode cX6_hasLight 1 = .ok (.ifCond .lt 15, 3) := by decide +kernel
theorem dX6_hasLight_4 : decode cX6_hasLight 4 = .ok (.iload_n 1, 1) := by decide +kernel
theorem dX6_hasLight_5 : decode cX6_hasLight 5 = .ok (.aload_n 0, 1) := by decide +kernel
theorem dX6_hasLight_6 : decode cX6_hasLight 6 = .ok (.getfield 57, 3) := by decide +kernel
theorem dX6_hasLight_9 : decode cX6_hasLight 9 = .ok (.if_icmp .ge 7, 3) := by decide +kernel
theorem dX6_hasLight_12 : decode cX6_hasLight 12 = .ok (.iconst 1, 1) := by decide +kernel
theorem dX6_hasLight_13 : decode cX6_hasLight 13 = .ok (.goto 4, 3) := by decide +kernel
theorem dX6_hasLight_16 : decode cX6_hasLight 16 = .ok (.iconst 0, 1) := by decide +kernel
theorem dX6_hasLight_17 : decode cX6_hasLight 17 = .ok (.ireturn, 1) := by decide +kernel
set_option maxRecDepth 20000 in
theorem ggX6_age_X0_age : GoodIn wsX6_age wsX0_age := goodIn_r _ [8, 9, 10, 11, 12, 24, 25, 26, 27, 28] (by decide +kernel) (by decide +kernel)
set_option maxRecDepth 20000 in
theorem gX6_age_X0_age : GoodIn wsX6_age (wsV RX6 67 RX0 yX0_age wsX0_age) := goodIn_app (goodIn_of _ (by decide +kernel)) ggX6_age_X0_age
theorem dX6_age_0 : decode cX6_age 0 = .ok (.aload_n 0, 1) := by decide +kernel
theorem dX6_age_1 : decode cX6_age 1 = .ok (.dup, 1) := by decide +kernel
theorem dX6_age_2 : decode cX6_age 2 = .ok (.getfield 48, 3) := by decide +kernel
theorem dX6_age_5 : decode cX6_age 5 = .ok (.iload_n 1, 1) := by decide +kernel
theorem dX6_age_6 : decode cX6_age 6 = .ok (.iadd, 1) := by decide +kernel
theorem dX6_age_7 : decode cX6_age 7 = .ok (.putfield 48, 3) := by decide +kernel
theorem dX6_age_10 : decode cX6_age 10 = .ok (.iconst 0, 1) := by decide +kernel
theorem dX6_age_11 : decode cX6_age 11 = .ok (.istore_n 2, 1) := by decide +kernel
theorem dX6_age_12 : decode cX6_age 12 = .ok (.iload_n 2, 1) := by decide +kernel
theorem dX6_age_13 : decode cX6_age 13 = .ok (.aload_n 0, 1) := by decide +kernel
theorem dX6_age_14 : decode cX6_age 14 = .ok (.getfield 41, 3) := by decide +kernel
theorem dX6_age_17 : decode cX6_age 17 = .ok (.if_icmp .ge 19, 3) := by decide +kernel
theorem dX6_age_20 : decode cX6_age 20 = .ok (.aload_n 0, 1) := by decide +kernel
theorem dX6_age_21 : decode cX6_age 21 = .ok (.getfield 11, 3) := by decide +kernel
theorem dX6_age_24 : decode cX6_age 24 = .ok (.iload_n 2, 1) := by decide +kernel
theorem dX6_age_25 : decode cX6_age 25 = .ok (.aaload, 1) := by decide +kernel
theorem dX6_age_26 : decode cX6_age 26 = .ok (.iload_n 1, 1) := by decide +kernel
theorem dX6_age_27 : decode cX6_age 27 = .ok (.invokevirtual 67, 3) := by decide +kernel
theorem dX6_age_30 : decode cX6_age 30 = .ok (.iinc 2 1, 3) := by decide +kernel
theorem dX6_age_33 : decode cX6_age 33 = .ok (.goto (-21), 3) := by decide +kernel
theorem dX6_age_36 : decode cX6_age 36 = .ok (.return_, 1) := by decide +kernel
theorem dX6_addCoat_0 : decode cX6_addCoat 0 = .ok (.aload_n 0, 1) := by decide +kernel
theorem dX6_addCoat_1 : decode cX6_addCoat 1 = .ok (.getfield 19, 3) := by decide +kernel
theorem dX6_addCoat_4 : decode cX6_addCoat 4 = .ok (.aload_n 0, 1) := by decide +kernel
theorem dX6_addCoat_5 : decode cX6_addCoat 5 = .ok (.getfield 60, 3) := by decide +kernel
theorem dX6_addCoat_8 : decode cX6_addCoat 8 = .ok (.aaload, 1) := by decide +kernel
theorem dX6_addCoat_9 : decode cX6_addCoat 9 = .ok (.astore 5, 2) := by decide +kernel
theorem dX6_addCoat_11 : decode cX6_addCoat 11 = .ok (.aload 5, 2) := by decide +kernel
theorem dX6_addCoat_13 : decode cX6_addCoat 13 = .ok (.iload_n 1, 1) := by decide +kernel
theorem dX6_addCoat_14 : decode cX6_addCoat 14 = .ok (.putfield 70, 3) := by decide +kernel
theorem dX6_addCoat_17 : decode cX6_addCoat 17 = .ok (.aload 5, 2) := by decide +kernel
theorem dX6_addCoat_19 : decode cX6_addCoat 19 = .ok (.getfield 73, 3) := by decide +kernel
theorem dX6_addCoat_22 : decode cX6_addCoat 22 = .ok (.iconst 0, 1) := by decide +kernel
theorem dX6_addCoat_23 : decode cX6_addCoat 23 = .ok (.iload_n 2, 1) := by decide +kernel
theorem dX6_addCoat_24 : decode cX6_addCoat 24 = .ok (.iastore, 1) := by decide +kernel
theorem dX6_addCoat_25 : decode cX6_addCoat 25 = .ok (.aload 5, 2) := by decide +kernel
theorem dX6_addCoat_27 : decode cX6_addCoat 27 = .ok (.getfield 73, 3) := by decide +kernel
theorem dX6_addCoat_30 : decode cX6_addCoat 30 = .ok (.iconst 1, 1) := by decide +kernel
theorem dX6_addCoat_31 : decode cX6_addCoat 31 = .ok (.iload_n 3, 1) := by decide +kernel
theorem dX6_addCoat_32 : decode cX6_addCoat 32 = .ok (.iastore, 1) := by decide +kernel
theorem dX6_addCoat_33 : decode cX6_addCoat 33 = .ok (.aload 5, 2) := by decide +kernel
theorem dX6_addCoat_35 : decode cX6_addCoat 35 = .ok (.getfield 73, 3) := by decide +kernel
theorem dX6_addCoat_38 : decode cX6_addCoat 38 = .ok (.iconst 2, 1) := by decide +kernel
theorem dX6_addCoat_39 : decode cX6_addCoat 39 = .ok (.iload 4, 2) := by decide +kernel
theorem dX6_addCoat_41 : decode cX6_addCoat 41 = .ok (.iastore, 1) := by decide +kernel
theorem dX6_addCoat_42 : decode cX6_addCoat 42 = .ok (.aload_n 0, 1) := by decide +kernel
theorem dX6_addCoat_43 : decode cX6_addCoat 43 = .ok (.dup, 1) := by decide +kernel
theorem dX6_addCoat_44 : decode cX6_addCoat 44 = .ok (.getfield 60, 3) := by decide +kernel
theorem dX6_addCoat_47 : decode cX6_addCoat 47 = .ok (.iconst 1, 1) := by decide +kernel
theorem dX6_addCoat_48 : decode cX6_addCoat 48 = .ok (.iadd, 1) := by decide +kernel
theorem dX6_addCoat_49 : decode cX6_addCoat 49 = .ok (.putfield 60, 3) := by decide +kernel
theorem dX6_addCoat_52 : decode cX6_addCoat 52 = .ok (.aload_n 0, 1) := by decide +kernel
theorem dX6_addCoat_53 : decode cX6_addCoat 53 = .ok (.getfield 60, 3) := by decide +kernel
theorem dX6_addCoat_56 : decode cX6_addCoat 56 = .ok (.iconst 1, 1) := by decide +kernel
theorem dX6_addCoat_57 : decode cX6_addCoat 57 = .ok (.isub, 1) := by decide +kernel
theorem dX6_addCoat_58 : decode cX6_addCoat 58 = .ok (.ireturn, 1) := by decide +kernel
theorem dX6_addLight_0 : decode cX6_addLight 0 = .ok (.aload_n 0, 1) := by decide +kernel
theorem dX6_addLight_1 : decode cX6_addLight 1 = .ok (.getfield 57, 3) := by decide +kernel
theorem dX6_addLight_4 : decode cX6_addLight 4 = .ok (.iconst 3, 1) := by decide +kernel
theorem dX6_addLight_5 : decode cX6_addLight 5 = .ok (.imul, 1) := by decide +kernel
theorem dX6_addLight_6 : decode cX6_addLight 6 = .ok (.istore 4, 2) := by decide +kernel
theorem dX6_addLight_8 : decode cX6_addLight 8 = .ok (.aload_n 0, 1) := by decide +kernel
theorem dX6_addLight_9 : decode cX6_addLight 9 = .ok (.getfield 23, 3) := by decide +kernel
theorem dX6_addLight_12 : decode cX6_addLight 12 = .ok (.iload 4, 2) := by decide +kernel
theorem dX6_addLight_14 : decode cX6_addLight 14 = .ok (.iload_n 1, 1) := by decide +kernel
theorem dX6_addLight_15 : decode cX6_addLight 15 = .ok (.iastore, 1) := by decide +kernel
theorem dX6_addLight_16 : decode cX6_addLight 16 = .ok (.aload_n 0, 1) := by decide +kernel
theorem dX6_addLight_17 : decode cX6_addLight 17 = .ok (.getfield 23, 3) := by decide +kernel
theorem dX6_addLight_20 : decode cX6_addLight 20 = .ok (.iload 4, 2) := by decide +kernel
theorem dX6_addLight_22 : decode cX6_addLight 22 = .ok (.iconst 1, 1) := by decide +kernel
theorem dX6_addLight_23 : decode cX6_addLight 23 = .ok (.iadd, 1) := by decide +kernel
theorem dX6_addLight_24 : decode cX6_addLight 24 = .ok (.iload_n 2, 1) := by decide +kernel
theorem dX6_addLight_25 : decode cX6_addLight 25 = .ok (.iastore, 1) := by decide +kernel
theorem dX6_addLight_26 : decode cX6_addLight 26 = .ok (.aload_n 0, 1) := by decide +kernel
theorem dX6_addLight_27 : decode cX6_addLight 27 = .ok (.getfield 23, 3) := by decide +kernel
theorem dX6_addLight_30 : decode cX6_addLight 30 = .ok (.iload 4, 2) := by decide +kernel
theorem dX6_addLight_32 : decode cX6_addLight 32 = .ok (.iconst 2, 1) := by decide +kernel
theorem dX6_addLight_33 : decode cX6_addLight 33 = .ok (.iadd, 1) := by decide +kernel
theorem dX6_addLight_34 : decode cX6_addLight 34 = .ok (.iload_n 3, 1) := by decide +kernel
theorem dX6_addLight_35 : decode cX6_addLight 35 = .ok (.iastore, 1) := by decide +kernel
theorem dX6_addLight_36 : decode cX6_addLight 36 = .ok (.aload_n 0, 1) := by decide +kernel
theorem dX6_addLight_37 : decode cX6_addLight 37 = .ok (.dup, 1) := by decide +kernel
theorem dX6_addLight_38 : decode cX6_addLight 38 = .ok (.getfield 57, 3) := by decide +kernel
theorem dX6_addLight_41 : decode cX6_addLight 41 = .ok (.iconst 1, 1) := by decide +kernel
theorem dX6_addLight_42 : decode cX6_addLight 42 = .ok (.iadd, 1) := by decide +kernel
theorem dX6_addLight_43 : decode cX6_addLight 43 = .ok (.putfield 57, 3) := by decide +kernel
theorem dX6_addLight_46 : decode cX6_addLight 46 = .ok (.aload_n 0, 1) := by decide +kernel
theorem dX6_addLight_47 : decode cX6_addLight 47 = .ok (.getfield 57, 3) := by decide +kernel
theorem dX6_addLight_50 : decode cX6_addLight 50 = .ok (.iconst 1, 1) := by decide +kernel
theorem dX6_addLight_51 : decode cX6_addLight 51 = .ok (.isub, 1) := by decide +kernel
theorem dX6_addLight_52 : decode cX6_addLight 52 = .ok (.ireturn, 1) := by decide +kernel
set_option maxRecDepth 20000 in
theorem ggX6_lookOfCoat_X1_comesBack : GoodIn wsX6_lookOfCoat wsX1_comesBack := goodIn_r _ [7, 8, 9, 10, 11, 12, 13, 14, 15, 16, 6, 17, 29, 30] (by decide +kernel) (by decide +kernel)
set_option maxRecDepth 20000 in
theorem gX6_lookOfCoat_X1_comesBack : GoodIn wsX6_lookOfCoat (wsV RX6 76 RX1 yX1_comesBack wsX1_comesBack) := goodIn_app (goodIn_of _ (by decide +kernel)) ggX6_lookOfCoat_X1_comesBack
theorem dX6_lookOfCoat_0 : decode cX6_lookOfCoat 0 = .ok (.iconst 0, 1) := by decide +kernel
theorem dX6_lookOfCoat_1 : decode cX6_lookOfCoat 1 = .ok (.istore 6, 2) := by decide +kernel
theorem dX6_lookOfCoat_3 : decode cX6_lookOfCoat 3 = .ok (.iconst 0, 1) := by decide +kernel
theorem dX6_lookOfCoat_4 : decode cX6_lookOfCoat 4 = .ok (.istore 7, 2) := by decide +kernel
theorem dX6_lookOfCoat_6 : decode cX6_lookOfCoat 6 = .ok (.iload 7, 2) := by decide +kernel
theorem dX6_lookOfCoat_8 : decode cX6_lookOfCoat 8 = .ok (.iconst 3, 1) := by decide +kernel
theorem dX6_lookOfCoat_9 : decode cX6_lookOfCoat 9 = .ok (.if_icmp .ge 41, 3) := by decide +kernel
theorem dX6_lookOfCoat_12 : decode cX6_lookOfCoat 12 = .ok (.iload 6, 2) := by decide +kernel
theorem dX6_lookOfCoat_14 : decode cX6_lookOfCoat 14 = .ok (.aload_n 1, 1) := by decide +kernel
theorem dX6_lookOfCoat_15 : decode cX6_lookOfCoat 15 = .ok (.iload 7, 2) := by decide +kernel
theorem dX6_lookOfCoat_17 : decode cX6_lookOfCoat 17 = .ok (.iload_n 2, 1) := by decide +kernel
theorem dX6_lookOfCoat_18 : decode cX6_lookOfCoat 18 = .ok (.iload_n 3, 1) := by decide +kernel
theorem dX6_lookOfCoat_19 : decode cX6_lookOfCoat 19 = .ok (.aload_n 0, 1) := by decide +kernel
theorem dX6_lookOfCoat_20 : decode cX6_lookOfCoat 20 = .ok (.getfield 51, 3) := by decide +kernel
theorem dX6_lookOfCoat_23 : decode cX6_lookOfCoat 23 = .ok (.iload 5, 2) := by decide +kernel
theorem dX6_lookOfCoat_25 : decode cX6_lookOfCoat 25 = .ok (.invokevirtual 76, 3) := by decide +kernel
theorem dX6_lookOfCoat_28 : decode cX6_lookOfCoat 28 = .ok (.aload_n 0, 1) := by decide +kernel
theorem dX6_lookOfCoat_29 : decode cX6_lookOfCoat 29 = .ok (.getfield 23, 3) := by decide +kernel
theorem dX6_lookOfCoat_32 : decode cX6_lookOfCoat 32 = .ok (.iload 4, 2) := by decide +kernel
theorem dX6_lookOfCoat_34 : decode cX6_lookOfCoat 34 = .ok (.iconst 3, 1) := by decide +kernel
theorem dX6_lookOfCoat_35 : decode cX6_lookOfCoat 35 = .ok (.imul, 1) := by decide +kernel
theorem dX6_lookOfCoat_36 : decode cX6_lookOfCoat 36 = .ok (.iload 7, 2) := by decide +kernel
theorem dX6_lookOfCoat_38 : decode cX6_lookOfCoat 38 = .ok (.iadd, 1) := by decide +kernel
theorem dX6_lookOfCoat_39 : decode cX6_lookOfCoat 39 = .ok (.iaload, 1) := by decide +kernel
theorem dX6_lookOfCoat_40 : decode cX6_lookOfCoat 40 = .ok (.imul, 1) := by decide +kernel
theorem dX6_lookOfCoat_41 : decode cX6_lookOfCoat 41 = .ok (.iadd, 1) := by decide +kernel
theorem dX6_lookOfCoat_42 : decode cX6_lookOfCoat 42 = .ok (.istore 6, 2) := by decide +kernel
theorem dX6_lookOfCoat_44 : decode cX6_lookOfCoat 44 = .ok (.iinc 7 1, 3) := by decide +kernel
theorem dX6_lookOfCoat_47 : decode cX6_lookOfCoat 47 = .ok (.goto (-41), 3) := by decide +kernel
theorem dX6_lookOfCoat_50 : decode cX6_lookOfCoat 50 = .ok (.iload 6, 2) := by decide +kernel
theorem dX6_lookOfCoat_52 : decode cX6_lookOfCoat 52 = .ok (.ireturn, 1) := by decide +kernel
set_option maxRecDepth 20000 in
theorem ggX6_lookOfCell_X6_lookOfCoat : GoodIn wsX6_lookOfCell wsX6_lookOfCoat := goodIn_r _ [10, 11, 12, 13, 14, 15, 16, 17, 18, 19, 20, 21, 22, 23, 24, 25, 26, 27, 28, 29, 30, 31, 32, 33, 34, 35, 36, 37, 38, 44, 45] (by decide +kernel) (by decide +kernel)
set_option maxRecDepth 20000 in
theorem gX6_lookOfCell_X6_lookOfCoat : GoodIn wsX6_lookOfCell (wsV RX6 89 RX6 yX6_lookOfCoat wsX6_lookOfCoat) := goodIn_app (goodIn_of _ (by decide +kernel)) ggX6_lookOfCell_X6_lookOfCoat
theorem dX6_lookOfCell_0 : decode cX6_lookOfCell 0 = .ok (.aload_n 0, 1) := by decide +kernel
theorem dX6_lookOfCell_1 : decode cX6_lookOfCell 1 = .ok (.getfield 11, 3) := by decide +kernel
theorem dX6_lookOfCell_4 : decode cX6_lookOfCell 4 = .ok (.iload_n 1, 1) := by decide +kernel
theorem dX6_lookOfCell_5 : decode cX6_lookOfCell 5 = .ok (.aaload, 1) := by decide +kernel
theorem dX6_lookOfCell_6 : decode cX6_lookOfCell 6 = .ok (.astore 4, 2) := by decide +kernel
theorem dX6_lookOfCell_8 : decode cX6_lookOfCell 8 = .ok (.aload_n 0, 1) := by decide +kernel
theorem dX6_lookOfCell_9 : decode cX6_lookOfCell 9 = .ok (.aload_n 0, 1) := by decide +kernel
theorem dX6_lookOfCell_10 : decode cX6_lookOfCell 10 = .ok (.getfield 19, 3) := by decide +kernel
theorem dX6_lookOfCell_13 : decode cX6_lookOfCell 13 = .ok (.aload 4, 2) := by decide +kernel
theorem dX6_lookOfCell_15 : decode cX6_lookOfCell 15 = .ok (.getfield 80, 3) := by decide +kernel
theorem dX6_lookOfCell_18 : decode cX6_lookOfCell 18 = .ok (.aaload, 1) := by decide +kernel
theorem dX6_lookOfCell_19 : decode cX6_lookOfCell 19 = .ok (.aload 4, 2) := by decide +kernel
theorem dX6_lookOfCell_21 : decode cX6_lookOfCell 21 = .ok (.getfield 83, 3) := by decide +kernel
theorem dX6_lookOfCell_24 : decode cX6_lookOfCell 24 = .ok (.aload 4, 2) := by decide +kernel
theorem dX6_lookOfCell_26 : decode cX6_lookOfCell 26 = .ok (.getfield 86, 3) := by decide +kernel
theorem dX6_lookOfCell_29 : decode cX6_lookOfCell 29 = .ok (.iload_n 2, 1) := by decide +kernel
theorem dX6_lookOfCell_30 : decode cX6_lookOfCell 30 = .ok (.iload_n 3, 1) := by decide +kernel
theorem dX6_lookOfCell_31 : decode cX6_lookOfCell 31 = .ok (.invokevirtual 89, 3) := by decide +kernel
theorem dX6_lookOfCell_34 : decode cX6_lookOfCell 34 = .ok (.ireturn, 1) := by decide +kernel
theorem dX6_views_0 : decode cX6_views 0 = .ok (.iconst 2, 1) := by decide +kernel
theorem dX6_views_1 : decode cX6_views 1 = .ok (.aload_n 0, 1) := by decide +kernel
theorem dX6_views_2 : decode cX6_views 2 = .ok (.getfield 57, 3) := by decide +kernel
theorem dX6_views_5 : decode cX6_views 5 = .ok (.imul, 1) := by decide +kernel
theorem dX6_views_6 : decode cX6_views 6 = .ok (.ireturn, 1) := by decide +kernel
set_option maxRecDepth 20000 in
theorem ggX6_areTraitors_X6_apartFresh : GoodIn wsX6_areTraitors wsX6_apartFresh := goodIn_r _ [6, 7, 8, 9, 10, 11, 12, 13, 14, 5, 15, 16, 17, 18, 19, 20, 21, 22, 23, 24, 25, 26, 27, 28, 29, 30, 31, 32, 33, 34, 35, 36, 37, 38, 39, 40, 41, 42, 43, 44] (by decide +kernel) (by decide +kernel)
set_option maxRecDepth 20000 in
theorem gX6_areTraitors_X6_apartFresh : GoodIn wsX6_areTraitors (wsV RX6 93 RX6 yX6_apartFresh wsX6_apartFresh) := goodIn_app (goodIn_of _ (by decide +kernel)) ggX6_areTraitors_X6_apartFresh
theorem dX6_areTraitors_0 : decode cX6_areTraitors 0 = .ok (.aload_n 0, 1) := by decide +kernel
theorem dX6_areTraitors_1 : decode cX6_areTraitors 1 = .ok (.iload_n 1, 1) := by decide +kernel
theorem dX6_areTraitors_2 : decode cX6_areTraitors 2 = .ok (.iload_n 2, 1) := by decide +kernel
theorem dX6_areTraitors_3 : decode cX6_areTraitors 3 = .ok (.iload_n 3, 1) := by decide +kernel
theorem dX6_areTraitors_4 : decode cX6_areTraitors 4 = .ok (.invokevirtual 93, 3) := by decide +kernel
theorem dX6_areTraitors_7 : decode cX6_areTraitors 7 = .ok (.aload_n 0, 1) := by decide +kernel
theorem dX6_areTraitors_8 : decode cX6_areTraitors 8 = .ok (.getfield 54, 3) := by decide +kernel
theorem dX6_areTraitors_11 : decode cX6_areTraitors 11 = .ok (.if_icmp .ge 22, 3) := by decide +kernel
theorem dX6_areTraitors_14 : decode cX6_areTraitors 14 = .ok (.aload_n 0, 1) := by decide +kernel
theorem dX6_areTraitors_15 : decode cX6_areTraitors 15 = .ok (.iload_n 1, 1) := by decide +kernel
theorem dX6_areTraitors_16 : decode cX6_areTraitors 16 = .ok (.iload_n 2, 1) := by decide +kernel
theorem dX6_areTraitors_17 : decode cX6_areTraitors 17 = .ok (.iload 4, 2) := by decide +kernel
theorem dX6_areTraitors_19 : decode cX6_areTraitors 19 = .ok (.invokevirtual 93, 3) := by decide +kernel
theorem dX6_areTraitors_22 : decode cX6_areTraitors 22 = .ok (.aload_n 0, 1) := by decide +kernel
theorem dX6_areTraitors_23 : decode cX6_areTraitors 23 = .ok (.getfield 54, 3) := by decide +kernel
theorem dX6_areTraitors_26 : decode cX6_areTraitors 26 = .ok (.if_icmp .lt 7, 3) := by decide +kernel
theorem dX6_areTraitors_29 : decode cX6_areTraitors 29 = .ok (.iconst 1, 1) := by decide +kernel
theorem dX6_areTraitors_30 : decode cX6_areTraitors 30 = .ok (.goto 4, 3) := by decide +kernel
theorem dX6_areTraitors_33 : decode cX6_areTraitors 33 = .ok (.iconst 0, 1) := by decide +kernel
theorem dX6_areTraitors_34 : decode cX6_areTraitors 34 = .ok (.ireturn, 1) := by decide +kernel
set_option maxRecDepth 20000 in
theorem ggX6_apartFresh_X6_lookOfCoat : GoodIn wsX6_apartFresh wsX6_lookOfCoat := goodIn_r _ [10, 11, 12, 13, 14, 15, 16, 17, 18, 19, 20, 4, 21, 22, 23, 24, 25, 26, 27, 28, 29, 30, 31, 32, 33, 34, 35, 36, 37, 38, 39] (by decide +kernel) (by decide +kernel)
set_option maxRecDepth 20000 in
theorem gX6_apartFresh_X6_lookOfCoat : GoodIn wsX6_apartFresh (wsV RX6 89 RX6 yX6_lookOfCoat wsX6_lookOfCoat) := goodIn_app (goodIn_of _ (by decide +kernel)) ggX6_apartFresh_X6_lookOfCoat
theorem dX6_apartFresh_0 : decode cX6_apartFresh 0 = .ok (.aload_n 0, 1) := by decide +kernel
theorem dX6_apartFresh_1 : decode cX6_apartFresh 1 = .ok (.aload_n 0, 1) := by decide +kernel
theorem dX6_apartFresh_2 : decode cX6_apartFresh 2 = .ok (.getfield 19, 3) := by decide +kernel
theorem dX6_apartFresh_5 : decode cX6_apartFresh 5 = .ok (.iload_n 1, 1) := by decide +kernel
theorem dX6_apartFresh_6 : decode cX6_apartFresh 6 = .ok (.aaload, 1) := by decide +kernel
theorem dX6_apartFresh_7 : decode cX6_apartFresh 7 = .ok (.iconst 0, 1) := by decide +kernel
theorem dX6_apartFresh_8 : decode cX6_apartFresh 8 = .ok (.iconst 0, 1) := by decide +kernel
theorem dX6_apartFresh_9 : decode cX6_apartFresh 9 = .ok (.iload_n 3, 1) := by decide +kernel
theorem dX6_apartFresh_10 : decode cX6_apartFresh 10 = .ok (.iconst 0, 1) := by decide +kernel
theorem dX6_apartFresh_11 : decode cX6_apartFresh 11 = .ok (.invokevirtual 89, 3) := by decide +kernel
theorem dX6_apartFresh_14 : decode cX6_apartFresh 14 = .ok (.aload_n 0, 1) := by decide +kernel
theorem dX6_apartFresh_15 : decode cX6_apartFresh 15 = .ok (.aload_n 0, 1) := by decide +kernel
theorem dX6_apartFresh_16 : decode cX6_apartFresh 16 = .ok (.getfield 19, 3) := by decide +kernel
theorem dX6_apartFresh_19 : decode cX6_apartFresh 19 = .ok (.iload_n 2, 1) := by decide +kernel
theorem dX6_apartFresh_20 : decode cX6_apartFresh 20 = .ok (.aaload, 1) := by decide +kernel
theorem dX6_apartFresh_21 : decode cX6_apartFresh 21 = .ok (.iconst 0, 1) := by decide +kernel
theorem dX6_apartFresh_22 : decode cX6_apartFresh 22 = .ok (.iconst 0, 1) := by decide +kernel
theorem dX6_apartFresh_23 : decode cX6_apartFresh 23 = .ok (.iload_n 3, 1) := by decide +kernel
theorem dX6_apartFresh_24 : decode cX6_apartFresh 24 = .ok (.iconst 0, 1) := by decide +kernel
theorem dX6_apartFresh_25 : decode cX6_apartFresh 25 = .ok (.invokevirtual 89, 3) := by decide +kernel
theorem dX6_apartFresh_28 : decode cX6_apartFresh 28 = .ok (.isub, 1) := by decide +kernel
theorem dX6_apartFresh_29 : decode cX6_apartFresh 29 = .ok (.invokestatic 97, 3) := by decide +kernel
theorem dX6_apartFresh_32 : decode cX6_apartFresh 32 = .ok (.ireturn, 1) := by decide +kernel
