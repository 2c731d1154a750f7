set_option maxRecDepth 20000 in
theorem gX1_takeRow_X1_clear : GoodIn wsX1_takeRow (wsV RX1 28 RX1 yX1_clear wsX1_clear) := goodIn_app (goodIn_of _ (by decide +kernel)) ggX1_takeRow_X1_clear
set_option maxRecDepth 20000 in
theorem ggX1_takeRow_X7_at : GoodIn wsX1_takeRow wsX7_at := goodIn_r _ [21, 22, 30, 31, 32, 33] (by decide +kernel) (by decide +kernel)
set_option maxRecDepth 20000 in
theorem gX1_takeRow_X7_at : GoodIn wsX1_takeRow (wsV RX1 65 RX7 yX7_at wsX7_at) := goodIn_app (goodIn_of _ (by decide +kernel)) ggX1_takeRow_X7_at
set_option maxRecDepth 20000 in
theorem ggX1_takeRow_X1_add : GoodIn wsX1_takeRow wsX1_add := goodIn_r _ [26, 15, 27, 28, 29, 16, 34, 35, 36, 37, 38] (by decide +kernel) (by decide +kernel)
set_option maxRecDepth 20000 in
theorem gX1_takeRow_X1_add : GoodIn wsX1_takeRow (wsV RX1 45 RX1 yX1_add wsX1_add) := goodIn_app (goodIn_of _ (by decide +kernel)) ggX1_takeRow_X1_add
theorem dX1_takeRow_0 : decode cX1_takeRow 0 = .ok (.aload_n 0, 1) := by decide +kernel
theorem dX1_takeRow_1 : decode cX1_takeRow 1 = .ok (.invokevirtual 28, 3) := by decide +kernel
theorem dX1_takeRow_4 : decode cX1_takeRow 4 = .ok (.iconst 0, 1) := by decide +kernel
theorem dX1_takeRow_5 : decode cX1_takeRow 5 = .ok (.istore_n 2, 1) := by decide +kernel
theorem dX1_takeRow_6 : decode cX1_takeRow 6 = .ok (.iload_n 2, 1) := by decide +kernel
theorem dX1_takeRow_7 : decode cX1_takeRow 7 = .ok (.aload_n 1, 1) := by decide +kernel
theorem dX1_takeRow_8 : decode cX1_takeRow 8 = .ok (.getfield 58, 3) := by decide +kernel
theorem dX1_takeRow_11 : decode cX1_takeRow 11 = .ok (.if_icmp .ge 33, 3) := by decide +kernel
theorem dX1_takeRow_14 : decode cX1_takeRow 14 = .ok (.lconst 0, 1) := by decide +kernel
theorem dX1_takeRow_15 : decode cX1_takeRow 15 = .ok (.ldc2_w 63, 3) := by decide +kernel
theorem dX1_takeRow_18 : decode cX1_takeRow 18 = .ok (.aload_n 1, 1) := by decide +kernel
theorem dX1_takeRow_19 : decode cX1_takeRow 19 = .ok (.iload_n 2, 1) := by decide +kernel
theorem dX1_takeRow_20 : decode cX1_takeRow 20 = .ok (.invokevirtual 65, 3) := by decide +kernel
theorem dX1_takeRow_23 : decode cX1_takeRow 23 = .ok (.invokestatic 69, 3) := by decide +kernel
theorem dX1_takeRow_26 : decode cX1_takeRow 26 = .ok (.invokestatic 72, 3) := by decide +kernel
theorem dX1_takeRow_29 : decode cX1_takeRow 29 = .ok (.l2i, 1) := by decide +kernel
theorem dX1_takeRow_30 : decode cX1_takeRow 30 = .ok (.istore_n 3, 1) := by decide +kernel
theorem dX1_takeRow_31 : decode cX1_takeRow 31 = .ok (.aload_n 0, 1) := by decide +kernel
theorem dX1_takeRow_32 : decode cX1_takeRow 32 = .ok (.iconst 1, 1) := by decide +kernel
theorem dX1_takeRow_33 : decode cX1_takeRow 33 = .ok (.iload_n 3, 1) := by decide +kernel
theorem dX1_takeRow_34 : decode cX1_takeRow 34 = .ok (.iload_n 3, 1) := by decide +kernel
theorem dX1_takeRow_35 : decode cX1_takeRow 35 = .ok (.invokevirtual 45, 3) := by decide +kernel
theorem dX1_takeRow_38 : decode cX1_takeRow 38 = .ok (.iinc 2 1, 3) := by decide +kernel
theorem dX1_takeRow_41 : decode cX1_takeRow 41 = .ok (.goto (-35), 3) := by decide +kernel
theorem dX1_takeRow_44 : decode cX1_takeRow 44 = .ok (.return_, 1) := by decide +kernel
theorem dX1_manyOf_0 : decode cX1_manyOf 0 = .ok (.iload_n 1, 1) := by decide +kernel
theorem dX1_manyOf_1 : decode cX1_manyOf 1 = .ok (.ifCond .lt 18, 3) := by decide +kernel
theorem dX1_manyOf_4 : decode cX1_manyOf 4 = .ok (.iload_n 1, 1) := by decide +kernel
theorem dX1_manyOf_5 : decode cX1_manyOf 5 = .ok (.bipush 60, 2) := by decide +kernel
theorem dX1_manyOf_7 : decode cX1_manyOf 7 = .ok (.if_icmp .ge 12, 3) := by decide +kernel
theorem dX1_manyOf_10 : decode cX1_manyOf 10 = .ok (.aload_n 0, 1) := by decide +kernel
theorem dX1_manyOf_11 : decode cX1_manyOf 11 = .ok (.getfield 18, 3) := by decide +kernel
theorem dX1_manyOf_14 : decode cX1_manyOf 14 = .ok (.iload_n 1, 1) := by decide +kernel
theorem dX1_manyOf_15 : decode cX1_manyOf 15 = .ok (.iaload, 1) := by decide +kernel
theorem dX1_manyOf_16 : decode cX1_manyOf 16 = .ok (.goto 4, 3) := by decide +kernel
theorem dX1_manyOf_19 : decode cX1_manyOf 19 = .ok (.iconst 0, 1) := by decide +kernel
theorem dX1_manyOf_20 : decode cX1_manyOf 20 = .ok (.ireturn, 1) := by decide +kernel
theorem dX1_evenOf_0 : decode cX1_evenOf 0 = .ok (.iload_n 1, 1) := by decide +kernel
theorem dX1_evenOf_1 : decode cX1_evenOf 1 = .ok (.ifCond .lt 18, 3) := by decide +kernel
theorem dX1_evenOf_4 : decode cX1_evenOf 4 = .ok (.iload_n 1, 1) := by decide +kernel
theorem dX1_evenOf_5 : decode cX1_evenOf 5 = .ok (.bipush 60, 2) := by decide +kernel
theorem dX1_evenOf_7 : decode cX1_evenOf 7 = .ok (.if_icmp .ge 12, 3) := by decide +kernel
theorem dX1_evenOf_10 : decode cX1_evenOf 10 = .ok (.aload_n 0, 1) := by decide +kernel
theorem dX1_evenOf_11 : decode cX1_evenOf 11 = .ok (.getfield 22, 3) := by decide +kernel
theorem dX1_evenOf_14 : decode cX1_evenOf 14 = .ok (.iload_n 1, 1) := by decide +kernel
theorem dX1_evenOf_15 : decode cX1_evenOf 15 = .ok (.iaload, 1) := by decide +kernel
theorem dX1_evenOf_16 : decode cX1_evenOf 16 = .ok (.goto 4, 3) := by decide +kernel
theorem dX1_evenOf_19 : decode cX1_evenOf 19 = .ok (.iconst 0, 1) := by decide +kernel
theorem dX1_evenOf_20 : decode cX1_evenOf 20 = .ok (.ireturn, 1) := by decide +kernel
theorem dX1_oddOf_0 : decode cX1_oddOf 0 = .ok (.iload_n 1, 1) := by decide +kernel
theorem dX1_oddOf_1 : decode cX1_oddOf 1 = .ok (.ifCond .lt 18, 3) := by decide +kernel
theorem dX1_oddOf_4 : decode cX1_oddOf 4 = .ok (.iload_n 1, 1) := by decide +kernel
theorem dX1_oddOf_5 : decode cX1_oddOf 5 = .ok (.bipush 60, 2) := by decide +kernel
theorem dX1_oddOf_7 : decode cX1_oddOf 7 = .ok (.if_icmp .ge 12, 3) := by decide +kernel
theorem dX1_oddOf_10 : decode cX1_oddOf 10 = .ok (.aload_n 0, 1) := by decide +kernel
theorem dX1_oddOf_11 : decode cX1_oddOf 11 = .ok (.getfield 25, 3) := by decide +kernel
theorem dX1_oddOf_14 : decode cX1_oddOf 14 = .ok (.iload_n 1, 1) := by decide +kernel
theorem dX1_oddOf_15 : decode cX1_oddOf 15 = .ok (.iaload, 1) := by decide +kernel
theorem dX1_oddOf_16 : decode cX1_oddOf 16 = .ok (.goto 4, 3) := by decide +kernel
theorem dX1_oddOf_19 : decode cX1_oddOf 19 = .ok (.iconst 0, 1) := by decide +kernel
theorem dX1_oddOf_20 : decode cX1_oddOf 20 = .ok (.ireturn, 1) := by decide +kernel
theorem dX1_has_0 : decode cX1_has 0 = .ok (.iload_n 1, 1) := by decide +kernel
theorem dX1_has_1 : decode cX1_has 1 = .ok (.ifCond .lt 15, 3) := by decide +kernel
theorem dX1_has_4 : decode cX1_has 4 = .ok (.iload_n 1, 1) := by decide +kernel
theorem dX1_has_5 : decode cX1_has 5 = .ok (.aload_n 0, 1) := by decide +kernel
theorem dX1_has_6 : decode cX1_has 6 = .ok (.getfield 9, 3) := by decide +kernel
theorem dX1_has_9 : decode cX1_has 9 = .ok (.if_icmp .ge 7, 3) := by decide +kernel
theorem dX1_has_12 : decode cX1_has 12 = .ok (.iconst 1, 1) := by decide +kernel
theorem dX1_has_13 : decode cX1_has 13 = .ok (.goto 4, 3) := by decide +kernel
theorem dX1_has_16 : decode cX1_has 16 = .ok (.iconst 0, 1) := by decide +kernel
theorem dX1_has_17 : decode cX1_has 17 = .ok (.ireturn, 1) := by decide +kernel
set_option maxRecDepth 20000 in
theorem ggX1_pressAt_X1_manyOf : GoodIn wsX1_pressAt wsX1_manyOf := goodIn_r _ [6, 7, 18, 19, 20, 21, 22] (by decide +kernel) (by decide +kernel)
set_option maxRecDepth 20000 in
theorem gX1_pressAt_X1_manyOf : GoodIn wsX1_pressAt (wsV RX1 31 RX1 yX1_manyOf wsX1_manyOf) := goodIn_app (goodIn_of _ (by decide +kernel)) ggX1_pressAt_X1_manyOf
set_option maxRecDepth 20000 in
theorem ggX1_pressAt_X1_evenOf : GoodIn wsX1_pressAt wsX1_evenOf := goodIn_r _ [11, 12, 18, 19, 20, 21, 22] (by decide +kernel) (by decide +kernel)
set_option maxRecDepth 20000 in
theorem gX1_pressAt_X1_evenOf : GoodIn wsX1_pressAt (wsV RX1 35 RX1 yX1_evenOf wsX1_evenOf) := goodIn_app (goodIn_of _ (by decide +kernel)) ggX1_pressAt_X1_evenOf
set_option maxRecDepth 20000 in
theorem ggX1_pressAt_X1_oddOf : GoodIn wsX1_pressAt wsX1_oddOf := goodIn_r _ [16, 17, 18, 19, 20, 21, 22] (by decide +kernel) (by decide +kernel)
set_option maxRecDepth 20000 in
theorem gX1_pressAt_X1_oddOf : GoodIn wsX1_pressAt (wsV RX1 42 RX1 yX1_oddOf wsX1_oddOf) := goodIn_app (goodIn_of _ (by decide +kernel)) ggX1_pressAt_X1_oddOf
theorem dX1_pressAt_0 : decode cX1_pressAt 0 = .ok (.iload_n 1, 1) := by decide +kernel
theorem dX1_pressAt_1 : decode cX1_pressAt 1 = .ok (.istore_n 2, 1) := by decide +kernel
theorem dX1_pressAt_2 : decode cX1_pressAt 2 = .ok (.iconst 0, 1) := by decide +kernel
theorem dX1_pressAt_3 : decode cX1_pressAt 3 = .ok (.istore_n 3, 1) := by decide +kernel
theorem dX1_pressAt_4 : decode cX1_pressAt 4 = .ok (.iload_n 3, 1) := by decide +kernel
theorem dX1_pressAt_5 : decode cX1_pressAt 5 = .ok (.aload_n 0, 1) := by decide +kernel
theorem dX1_pressAt_6 : decode cX1_pressAt 6 = .ok (.getfield 15, 3) := by decide +kernel
theorem dX1_pressAt_9 : decode cX1_pressAt 9 = .ok (.if_icmp .ge 46, 3) := by decide +kernel
theorem dX1_pressAt_12 : decode cX1_pressAt 12 = .ok (.iload_n 2, 1) := by decide +kernel
theorem dX1_pressAt_13 : decode cX1_pressAt 13 = .ok (.aload_n 0, 1) := by decide +kernel
theorem dX1_pressAt_14 : decode cX1_pressAt 14 = .ok (.iload_n 3, 1) := by decide +kernel
theorem dX1_pressAt_15 : decode cX1_pressAt 15 = .ok (.invokevirtual 31, 3) := by decide +kernel
theorem dX1_pressAt_18 : decode cX1_pressAt 18 = .ok (.if_icmp .ge 23, 3) := by decide +kernel
theorem dX1_pressAt_21 : decode cX1_pressAt 21 = .ok (.iload_n 2, 1) := by decide +kernel
theorem dX1_pressAt_22 : decode cX1_pressAt 22 = .ok (.iconst 2, 1) := by decide +kernel
theorem dX1_pressAt_23 : decode cX1_pressAt 23 = .ok (.irem, 1) := by decide +kernel
theorem dX1_pressAt_24 : decode cX1_pressAt 24 = .ok (.ifCond .ne 11, 3) := by decide +kernel
theorem dX1_pressAt_27 : decode cX1_pressAt 27 = .ok (.aload_n 0, 1) := by decide +kernel
theorem dX1_pressAt_28 : decode cX1_pressAt 28 = .ok (.iload_n 3, 1) := by decide +kernel
theorem dX1_pressAt_29 : decode cX1_pressAt 29 = .ok (.invokevirtual 35, 3) := by decide +kernel
theorem dX1_pressAt_32 : decode cX1_pressAt 32 = .ok (.goto 8, 3) := by decide +kernel
theorem dX1_pressAt_35 : decode cX1_pressAt 35 = .ok (.aload_n 0, 1) := by decide +kernel
theorem dX1_pressAt_36 : decode cX1_pressAt 36 = .ok (.iload_n 3, 1) := by decide +kernel
theorem dX1_pressAt_37 : decode cX1_pressAt 37 = .ok (.invokevirtual 42, 3) := by decide +kernel
theorem dX1_pressAt_40 : decode cX1_pressAt 40 = .ok (.ireturn, 1) := by decide +kernel
theorem dX1_pressAt_41 : decode cX1_pressAt 41 = .ok (.iload_n 2, 1) := by decide +kernel
theorem dX1_pressAt_42 : decode cX1_pressAt 42 = .ok (.aload_n 0, 1) := by decide +kernel
theorem dX1_pressAt_43 : decode cX1_pressAt 43 = .ok (.iload_n 3, 1) := by decide +kernel
theorem dX1_pressAt_44 : decode cX1_pressAt 44 = .ok (.invokevirtual 31, 3) := by decide +kernel
theorem dX1_pressAt_47 : decode cX1_pressAt 47 = .ok (.isub, 1) := by decide +kernel
theorem dX1_pressAt_48 : decode cX1_pressAt 48 = .ok (.istore_n 2, 1) := by decide +kernel
theorem dX1_pressAt_49 : decode cX1_pressAt 49 = .ok (.iinc 3 1, 3) := by decide +kernel
theorem dX1_pressAt_52 : decode cX1_pressAt 52 = .ok (.goto (-48), 3) := by decide +kernel
theorem dX1_pressAt_55 : decode cX1_pressAt 55 = .ok (.iconst 0, 1) := by decide +kernel
theorem dX1_pressAt_56 : decode cX1_pressAt 56 = .ok (.ireturn, 1) := by decide +kernel
set_option maxRecDepth 20000 in
theorem ggX1_firstAbove_X1_evenOf : GoodIn wsX1_firstAbove wsX1_evenOf := goodIn_r _ [6, 7, 18, 19, 20, 21, 22] (by decide +kernel) (by decide +kernel)
set_option maxRecDepth 20000 in
theorem gX1_firstAbove_X1_evenOf : GoodIn wsX1_firstAbove (wsV RX1 35 RX1 yX1_evenOf wsX1_evenOf) := goodIn_app (goodIn_of _ (by decide +kernel)) ggX1_firstAbove_X1_evenOf
set_option maxRecDepth 20000 in
theorem ggX1_firstAbove_X1_oddOf : GoodIn wsX1_firstAbove wsX1_oddOf := goodIn_r _ [11, 12, 18, 19, 20, 21, 22] (by decide +kernel) (by decide +kernel)
set_option maxRecDepth 20000 in
theorem gX1_firstAbove_X1_oddOf : GoodIn wsX1_firstAbove (wsV RX1 42 RX1 yX1_oddOf wsX1_oddOf) := goodIn_app (goodIn_of _ (by decide +kernel)) ggX1_firstAbove_X1_oddOf
set_option maxRecDepth 20000 in
theorem ggX1_firstAbove_X1_manyOf : GoodIn wsX1_firstAbove wsX1_manyOf := goodIn_r _ [16, 17, 18, 19, 20, 21, 22] (by decide +kernel) (by decide +kernel)
set_option maxRecDepth 20000 in
theorem gX1_firstAbove_X1_manyOf : GoodIn wsX1_firstAbove (wsV RX1 31 RX1 yX1_manyOf wsX1_manyOf) := goodIn_app (goodIn_of _ (by decide +kernel)) ggX1_firstAbove_X1_manyOf
theorem dX1_firstAbove_0 : decode cX1_firstAbove 0 = .ok (.iconst 0, 1) := by decide +kernel
theorem dX1_firstAbove_1 : decode cX1_firstAbove 1 = .ok (.istore_n 2, 1) := by decide +kernel
theorem dX1_firstAbove_2 : decode cX1_firstAbove 2 = .ok (.iconst 0, 1) := by decide +kernel
theorem dX1_firstAbove_3 : decode cX1_firstAbove 3 = .ok (.istore_n 3, 1) := by decide +kernel
theorem dX1_firstAbove_4 : decode cX1_firstAbove 4 = .ok (.iload_n 3, 1) := by decide +kernel
theorem dX1_firstAbove_5 : decode cX1_firstAbove 5 = .ok (.aload_n 0, 1) := by decide +kernel
theorem dX1_firstAbove_6 : decode cX1_firstAbove 6 = .ok (.getfield 15, 3) := by decide +kernel
theorem dX1_firstAbove_9 : decode cX1_firstAbove 9 = .ok (.if_icmp .ge 50, 3) := by decide +kernel
theorem dX1_firstAbove_12 : decode cX1_firstAbove 12 = .ok (.aload_n 0, 1) := by decide +kernel
theorem dX1_firstAbove_13 : decode cX1_firstAbove 13 = .ok (.iload_n 3, 1) := by decide +kernel
theorem dX1_firstAbove_14 : decode cX1_firstAbove 14 = .ok (.invokevirtual 35, 3) := by decide +kernel
theorem dX1_firstAbove_17 : decode cX1_firstAbove 17 = .ok (.iload_n 1, 1) := by decide +kernel
theorem dX1_firstAbove_18 : decode cX1_firstAbove 18 = .ok (.if_icmp .le 5, 3) := by decide +kernel
theorem dX1_firstAbove_21 : decode cX1_firstAbove 21 = .ok (.iload_n 2, 1) := by decide +kernel
theorem dX1_firstAbove_22 : decode cX1_firstAbove 22 = .ok (.ireturn, 1) := by decide +kernel
theorem dX1_firstAbove_23 : decode cX1_firstAbove 23 = .ok (.aload_n 0, 1) := by decide +kernel
theorem dX1_firstAbove_24 : decode cX1_firstAbove 24 = .ok (.iload_n 3, 1) := by decide +kernel
theorem dX1_firstAbove_25 : decode cX1_firstAbove 25 = .ok (.invokevirtual 42, 3) := by decide +kernel
theorem dX1_firstAbove_28 : decode cX1_firstAbove 28 = .ok (.iload_n 1, 1) := by decide +kernel
theorem dX1_firstAbove_29 : decode cX1_firstAbove 29 = .ok (.if_icmp .le 16, 3) := by decide +kernel
theorem dX1_firstAbove_32 : decode cX1_firstAbove 32 = .ok (.aload_n 0, 1) := by decide +kernel
theorem dX1_firstAbove_33 : decode cX1_firstAbove 33 = .ok (.iload_n 3, 1) := by decide +kernel
theorem dX1_firstAbove_34 : decode cX1_firstAbove 34 = .ok (.invokevirtual 31, 3) := by decide +kernel
theorem dX1_firstAbove_37 : decode cX1_firstAbove 37 = .ok (.iconst 1, 1) := by decide +kernel
theorem dX1_firstAbove_38 : decode cX1_firstAbove 38 = .ok (.if_icmp .le 7, 3) := by decide +kernel
theorem dX1_firstAbove_41 : decode cX1_firstAbove 41 = .ok (.iload_n 2, 1) := by decide +kernel
theorem dX1_firstAbove_42 : decode cX1_firstAbove 42 = .ok (.iconst 1, 1) := by decide +kernel
theorem dX1_firstAbove_43 : decode cX1_firstAbove 43 = .ok (.iadd, 1) := by decide +kernel
theorem dX1_firstAbove_44 : decode cX1_firstAbove 44 = .ok (.ireturn, 1) := by decide +kernel
theorem dX1_firstAbove_45 : decode cX1_firstAbove 45 = .ok (.iload_n 2, 1) := by decide +kernel
theorem dX1_firstAbove_46 : decode cX1_firstAbove 46 = .ok (.aload_n 0, 1) := by decide +kernel
theorem dX1_firstAbove_47 : decode cX1_firstAbove 47 = .ok (.iload_n 3, 1) := by decide +kernel
theorem dX1_firstAbove_48 : decode cX1_firstAbove 48 = .ok (.invokevirtual 31, 3) := by decide +kernel
theorem dX1_firstAbove_51 : decode cX1_firstAbove 51 = .ok (.iadd, 1) := by decide +kernel
theorem dX1_firstAbove_52 : decode cX1_firstAbove 52 = .ok (.istore_n 2, 1) := by decide +kernel
theorem dX1_firstAbove_53 : decode cX1_firstAbove 53 = .ok (.iinc 3 1, 3) := by decide +kernel
theorem dX1_firstAbove_56 : decode cX1_firstAbove 56 = .ok (.goto (-52), 3) := by decide +kernel
theorem dX1_firstAbove_59 : decode cX1_firstAbove 59 = .ok (.iconst (-1), 1) := by decide +kernel
theorem dX1_firstAbove_60 : decode cX1_firstAbove 60 = .ok (.ireturn, 1) := by decide +kernel
set_option maxRecDepth 20000 in
theorem ggX2_init_X10_init : GoodIn wsX2_init wsX10_init := goodIn_r _ [10, 11, 2, 3, 12, 13, 14, 15, 16, 17, 18, 19, 20, 21, 22, 23, 24, 25, 26, 27, 28, 29, 30, 31, 32, 33, 34, 35, 36, 37, 38, 39, 40, 41, 42, 43, 44, 45, 46, 47, 48, 49, 50, 51, 52, 53, 54, 55, 56, 57, 58, 59, 60, 61, 62, 63, 64, 65, 66, 81, 82, 83, 84, 85, 67, 68, 69, 70, 71, 72, 73, 74, 75, 76, 77, 78, 86, 87, 88, 89, 90, 91, 92, 93, 94, 95, 96, 97, 98, 99, 100, 101, 102] (by decide +kernel) (by decide +kernel)
set_option maxRecDepth 20000 in
theorem gX2_init_X10_init_n11 : GoodIn wsX2_init (wsX10_init) := ggX2_init_X10_init
theorem dX2_init_0 : decode cX2_init 0 = .ok (.aload_n 0, 1) := by decide +kernel
theorem dX2_init_1 : decode cX2_init 1 = .ok (.invokespecial 3, 3) := by decide +kernel
theorem dX2_init_4 : decode cX2_init 4 = .ok (.aload_n 0, 1) := by decide +kernel
theorem dX2_init_5 : decode cX2_init 5 = .ok (.new 9, 3) := by decide +kernel
theorem dX2_init_8 : decode cX2_init 8 = .ok (.dup, 1) := by decide +kernel
theorem dX2_init_9 : decode cX2_init 9 = .ok (.invokespecial 11, 3) := by decide +kernel
theorem dX2_init_12 : decode cX2_init 12 = .ok (.putfield 12, 3) := by decide +kernel
theorem dX2_init_15 : decode cX2_init 15 = .ok (.aload_n 0, 1) := by decide +kernel
theorem dX2_init_16 : decode cX2_init 16 = .ok (.aload_n 1, 1) := by decide +kernel
theorem dX2_init_17 : decode cX2_init 17 = .ok (.putfield 18, 3) := by decide +kernel
theorem dX2_init_20 : decode cX2_init 20 = .ok (.return_, 1) := by decide +kernel
theorem dX2_readWorks_0 : decode cX2_readWorks 0 = .ok (.aload_n 0, 1) := by decide +kernel
theorem dX2_readWorks_1 : decode cX2_readWorks 1 = .ok (.getfield 18, 3) := by decide +kernel
theorem dX2_readWorks_4 : decode cX2_readWorks 4 = .ok (.invokevirtual 22, 3) := by decide +kernel
theorem dX2_readWorks_7 : decode cX2_readWorks 7 = .ok (.iconst 0, 1) := by decide +kernel
theorem dX2_readWorks_8 : decode cX2_readWorks 8 = .ok (.istore_n 1, 1) := by decide +kernel
theorem dX2_readWorks_9 : decode cX2_readWorks 9 = .ok (.iload_n 1, 1) := by decide +kernel
theorem dX2_readWorks_10 : decode cX2_readWorks 10 = .ok (.bipush 60, 2) := by decide +kernel
theorem dX2_readWorks_12 : decode cX2_readWorks 12 = .ok (.if_icmp .gt 24, 3) := by decide +kernel
theorem dX2_readWorks_15 : decode cX2_readWorks 15 = .ok (.aload_n 0, 1) := by decide +kernel
theorem dX2_readWorks_16 : decode cX2_readWorks 16 = .ok (.getfield 18, 3) := by decide +kernel
theorem dX2_readWorks_19 : decode cX2_readWorks 19 = .ok (.invokevirtual 27, 3) := by decide +kernel
theorem dX2_readWorks_22 : decode cX2_readWorks 22 = .ok (.ifCond .eq 14, 3) := by decide +kernel
theorem dX2_readWorks_25 : decode cX2_readWorks 25 = .ok (.aload_n 0, 1) := by decide +kernel
theorem dX2_readWorks_26 : decode cX2_readWorks 26 = .ok (.iload_n 1, 1) := by decide +kernel
theorem dX2_readWorks_27 : decode cX2_readWorks 27 = .ok (.invokevirtual 31, 3) := by decide +kernel
theorem dX2_readWorks_30 : decode cX2_readWorks 30 = .ok (.iinc 1 1, 3) := by decide +kernel
theorem dX2_readWorks_33 : decode cX2_readWorks 33 = .ok (.goto (-24), 3) := by decide +kernel
theorem dX2_readWorks_36 : decode cX2_readWorks 36 = .ok (.aload_n 0, 1) := by decide +kernel
theorem dX2_readWorks_37 : decode cX2_readWorks 37 = .ok (.getfield 12, 3) := by decide +kernel
theorem dX2_readWorks_40 : decode cX2_readWorks 40 = .ok (.areturn, 1) := by decide +kernel
set_option maxRecDepth 20000 in
theorem ggX2_readLine_X2_kindOfLine : GoodIn wsX2_readLine wsX2_kindOfLine := goodIn_r _ [10, 1, 11, 12, 13, 14, 15, 16, 17, 18, 19, 20, 21, 22, 23, 24, 25, 26, 27, 28, 29, 30, 31, 32, 33, 34, 35, 36, 37, 38, 39, 40, 41, 42, 43, 44, 45, 46, 47, 48, 49, 50, 51, 52, 53, 54, 55, 56, 57, 58, 59, 60, 61, 62, 63, 64, 65, 66, 67, 68, 69, 70, 290, 291, 304, 305, 306, 307, 308, 309, 310, 311] (by decide +kernel) (by decide +kernel)
set_option maxRecDepth 20000 in
theorem gX2_readLine_X2_kindOfLine : GoodIn wsX2_readLine (wsV RX2 35 RX2 yX2_kindOfLine wsX2_kindOfLine) := goodIn_app (goodIn_of _ (by decide +kernel)) ggX2_readLine_X2_kindOfLine
set_option maxRecDepth 20000 in
theorem ggX2_readLine_X9_fail : GoodIn wsX2_readLine wsX9_fail := goodIn_r _ [74, 16, 19, 75, 304, 305, 306, 307, 308, 309, 310, 311] (by decide +kernel) (by decide +kernel)
set_option maxRecDepth 20000 in
theorem gX2_readLine_X9_fail : GoodIn wsX2_readLine (wsV RX2 39 RX9 yX9_fail wsX9_fail) := goodIn_app (goodIn_of _ (by decide +kernel)) ggX2_readLine_X9_fail
set_option maxRecDepth 20000 in
theorem ggX2_readLine_X2_isFull : GoodIn wsX2_readLine wsX2_isFull := goodIn_r _ [79, 2, 80, 81, 82, 83, 84, 85, 86, 290, 291, 292, 293, 294, 295, 296, 297, 298, 299, 300, 301, 302, 303, 312, 313, 314, 315, 316, 317, 318, 319, 320, 321, 322, 323, 324, 325, 326, 327, 328] (by decide +kernel) (by decide +kernel)
set_option maxRecDepth 20000 in
theorem gX2_readLine_X2_isFull : GoodIn wsX2_readLine (wsV RX2 46 RX2 yX2_isFull wsX2_isFull) := goodIn_app (goodIn_of _ (by decide +kernel)) ggX2_readLine_X2_isFull
set_option maxRecDepth 20000 in
theorem ggX2_readLine_X9_step : GoodIn wsX2_readLine wsX9_step := goodIn_r _ [90, 18, 20, 21, 19, 91, 17, 92, 304, 305, 306, 307, 308, 309, 310, 311] (by decide +kernel) (by decide +kernel)
set_option maxRecDepth 20000 in
theorem gX2_readLine_X9_step : GoodIn wsX2_readLine (wsV RX2 54 RX9 yX9_step wsX9_step) := goodIn_app (goodIn_of _ (by decide +kernel)) ggX2_readLine_X9_step
set_option maxRecDepth 20000 in
theorem ggX2_readLine_X2_readPot : GoodIn wsX2_readLine wsX2_readPot := goodIn_r _ [96, 1, 2, 97, 98, 99, 14, 100, 101, 102, 103, 104, 105, 12, 13, 15, 16, 17, 18, 19, 20, 21, 22, 23, 24, 25, 26, 27, 28, 29, 30, 31, 32, 33, 34, 35, 36, 37, 38, 39, 40, 41, 42, 43, 44, 45, 46, 47, 48, 49, 50, 51, 52, 53, 54, 55, 56, 57, 58, 59, 60, 61, 62, 63, 64, 65, 66, 67, 68, 69, 70, 106, 88, 89, 90, 91, 92, 107, 72, 73, 74, 75, 108, 109, 110, 111, 112, 113, 114, 115, 116, 117, 118, 119, 120, 121, 122, 123, 290, 291, 304, 305, 306, 307, 308, 309, 310, 311, 292, 293, 294, 295, 296, 297, 298, 299, 300, 301, 302, 303] (by decide +kernel) (by decide +kernel)
set_option maxRecDepth 20000 in
theorem gX2_readLine_X2_readPot : GoodIn wsX2_readLine (wsV RX2 57 RX2 yX2_readPot wsX2_readPot) := goodIn_app (goodIn_of _ (by decide +kernel)) ggX2_readLine_X2_readPot
set_option maxRecDepth 20000 in
theorem ggX2_readLine_X2_readPipe : GoodIn wsX2_readLine wsX2_readPipe := goodIn_r _ [127, 1, 2, 80, 128, 129, 130, 131, 132, 133, 108, 109, 110, 14, 111, 17, 91, 16, 107, 72, 73, 74, 19, 75, 106, 88, 89, 90, 18, 20, 21, 92, 97, 98, 99, 100, 101, 102, 103, 104, 105, 12, 13, 15, 22, 23, 24, 25, 26, 27, 28, 29, 30, 31, 32, 33, 34, 35, 36, 37, 38, 39, 40, 41, 42, 43, 44, 45, 46, 47, 48, 49, 50, 51, 52, 53, 54, 55, 56, 57, 58, 59, 60, 61, 62, 63, 64, 65, 66, 67, 68, 69, 70, 134, 135, 136, 137, 138, 139, 140, 141, 142, 143, 144, 145, 146, 147, 148, 149, 150, 151, 152, 153, 9, 154, 155, 11, 71, 87, 156, 157, 158, 159, 160, 161, 162, 163, 164, 165, 166, 167, 168, 169, 170, 171, 172, 115, 173, 174, 175, 120, 121, 122, 123, 118, 176, 177, 178, 179, 180, 181, 182, 183, 184, 185, 186, 187, 188, 189, 190, 191, 192, 193, 290, 291, 292, 293, 294, 295, 296, 297, 298, 299, 300, 301, 302, 303, 329, 330, 331, 332, 333, 334, 335, 336, 337, 338, 339, 340, 341, 342, 343, 344, 345, 346, 304, 305, 306, 307, 308, 309, 310, 311] (by decide +kernel) (by decide +kernel)
set_option maxRecDepth 20000 in
theorem gX2_readLine_X2_readPipe : GoodIn wsX2_readLine (wsV RX2 60 RX2 yX2_readPipe wsX2_readPipe) := goodIn_app (goodIn_of _ (by decide +kernel)) ggX2_readLine_X2_readPipe
set_option maxRecDepth 20000 in
theorem ggX2_readLine_X2_readRun : GoodIn wsX2_readLine wsX2_readRun := goodIn_r _ [197, 1, 2, 198, 199, 200, 201, 9, 202, 203, 204, 205, 206, 207, 108, 109, 110, 14, 111, 17, 91, 16, 107, 72, 73, 74, 19, 75, 106, 88, 89, 90, 18, 20, 21, 92, 97, 98, 99, 100, 101, 102, 103, 104, 105, 12, 13, 15, 22, 23, 24, 25, 26, 27, 28, 29, 30, 31, 32, 33, 34, 35, 36, 37, 38, 39, 40, 41, 42, 43, 44, 45, 46, 47, 48, 49, 50, 51, 52, 53, 54, 55, 56, 57, 58, 59, 60, 61, 62, 63, 64, 65, 66, 67, 68, 69, 70, 208, 209, 210, 211, 212, 213, 214, 215, 216, 217, 290, 291, 292, 293, 294, 295, 296, 297, 298, 299, 300, 301, 302, 303, 347, 348, 349, 350, 351, 304, 305, 306, 307, 308, 309, 310, 311] (by decide +kernel) (by decide +kernel)
set_option maxRecDepth 20000 in
theorem gX2_readLine_X2_readRun : GoodIn wsX2_readLine (wsV RX2 63 RX2 yX2_readRun wsX2_readRun) := goodIn_app (goodIn_of _ (by decide +kernel)) ggX2_readLine_X2_readRun
set_option maxRecDepth 20000 in
theorem ggX2_readLine_X2_readSwing : GoodIn wsX2_readLine wsX2_readSwing := goodIn_r _ [221, 1, 2, 198, 108, 109, 110, 14, 111, 17, 91, 16, 107, 72, 73, 74, 19, 75, 106, 88, 89, 90, 18, 20, 21, 92, 97, 98, 99, 100, 101, 102, 103, 104, 105, 12, 13, 15, 22, 23, 24, 25, 26, 27, 28, 29, 30, 31, 32, 33, 34, 35, 36, 37, 38, 39, 40, 41, 42, 43, 44, 45, 46, 47, 48, 49, 50, 51, 52, 53, 54, 55, 56, 57, 58, 59, 60, 61, 62, 63, 64, 65, 66, 67, 68, 69, 70, 199, 200, 201, 9, 202, 203, 204, 205, 206, 207, 208, 209, 210, 211, 212, 213, 214, 215, 216, 217, 290, 291, 292, 293, 294, 295, 296, 297, 298, 299, 300, 301, 302, 303, 304, 305, 306, 307, 308, 309, 310, 311, 347, 348, 349, 350, 351] (by decide +kernel) (by decide +kernel)
set_option maxRecDepth 20000 in
theorem gX2_readLine_X2_readSwing : GoodIn wsX2_readLine (wsV RX2 66 RX2 yX2_readSwing wsX2_readSwing) := goodIn_app (goodIn_of _ (by decide +kernel)) ggX2_readLine_X2_readSwing
set_option maxRecDepth 20000 in
theorem ggX2_readLine_X2_readWind : GoodIn wsX2_readLine wsX2_readWind := goodIn_r _ [225, 1, 2, 3, 226, 227, 176, 102, 103, 14, 104, 105, 12, 13, 15, 16, 17, 18, 19, 20, 21, 22, 23, 24, 25, 26, 27, 28, 29, 30, 31, 32, 33, 34, 35, 36, 37, 38, 39, 40, 41, 42, 43, 44, 45, 46, 47, 48, 49, 50, 51, 52, 53, 54, 55, 56, 57, 58, 59, 60, 61, 62, 63, 64, 65, 66, 67, 68, 69, 70, 106, 88, 89, 90, 91, 92, 97, 98, 99, 100, 101, 107, 72, 73, 74, 75, 108, 109, 110, 111, 290, 291, 292, 293, 294, 295, 296, 297, 298, 299, 300, 301, 302, 303, 304, 305, 306, 307, 308, 309, 310, 311] (by decide +kernel) (by decide +kernel)
set_option maxRecDepth 20000 in
theorem gX2_readLine_X2_readWind : GoodIn wsX2_readLine (wsV RX2 69 RX2 yX2_readWind wsX2_readWind) := goodIn_app (goodIn_of _ (by decide +kernel)) ggX2_readLine_X2_readWind
set_option maxRecDepth 20000 in
theorem ggX2_readLine_X2_readRoom : GoodIn wsX2_readLine wsX2_readRoom := goodIn_r _ [231, 1, 2, 82, 97, 98, 99, 14, 100, 101, 102, 103, 104, 105, 12, 13, 15, 16, 17, 18, 19, 20, 21, 22, 23, 24, 25, 26, 27, 28, 29, 30, 31, 32, 33, 34, 35, 36, 37, 38, 39, 40, 41, 42, 43, 44, 45, 46, 47, 48, 49, 50, 51, 52, 53, 54, 55, 56, 57, 58, 59, 60, 61, 62, 63, 64, 65, 66, 67, 68, 69, 70, 106, 88, 89, 90, 91, 92, 107, 72, 73, 74, 75, 108, 109, 110, 111, 176, 232, 233, 234, 235, 236, 237, 238, 239, 240, 241, 242, 290, 291, 292, 293, 294, 295, 296, 297, 298, 299, 300, 301, 302, 303, 304, 305, 306, 307, 308, 309, 310, 311, 312, 313, 314, 315, 316, 317] (by decide +kernel) (by decide +kernel)
set_option maxRecDepth 20000 in
theorem gX2_readLine_X2_readRoom : GoodIn wsX2_readLine (wsV RX2 72 RX2 yX2_readRoom wsX2_readRoom) := goodIn_app (goodIn_of _ (by decide +kernel)) ggX2_readLine_X2_readRoom
set_option maxRecDepth 20000 in
theorem ggX2_readLine_X2_readPerson : GoodIn wsX2_readLine wsX2_readPerson := goodIn_r _ [246, 1, 2, 84, 97, 98, 99, 14, 100, 101, 102, 103, 104, 105, 12, 13, 15, 16, 17, 18, 19, 20, 21, 22, 23, 24, 25, 26, 27, 28, 29, 30, 31, 32, 33, 34, 35, 36, 37, 38, 39, 40, 41, 42, 43, 44, 45, 46, 47, 48, 49, 50, 51, 52, 53, 54, 55, 56, 57, 58, 59, 60, 61, 62, 63, 64, 65, 66, 67, 68, 69, 70, 106, 88, 89, 90, 91, 92, 107, 72, 73, 74, 75, 247, 248, 249, 9, 250, 251, 176, 71, 108, 109, 110, 111, 252, 253, 254, 255, 256, 257, 258, 259, 260, 290, 291, 292, 293, 294, 295, 296, 297, 298, 299, 300, 301, 302, 303, 304, 305, 306, 307, 308, 309, 310, 311, 318, 319, 320, 321, 322, 323, 324, 325, 326, 327, 328] (by decide +kernel) (by decide +kernel)
set_option maxRecDepth 20000 in
theorem gX2_readLine_X2_readPerson : GoodIn wsX2_readLine (wsV RX2 75 RX2 yX2_readPerson wsX2_readPerson) := goodIn_app (goodIn_of _ (by decide +kernel)) ggX2_readLine_X2_readPerson
set_option maxRecDepth 20000 in
theorem ggX2_readLine_X2_readRule : GoodIn wsX2_readLine wsX2_readRule := goodIn_r _ [264, 1, 2, 84, 265, 266, 267, 9, 268, 176, 102, 103, 14, 104, 105, 12, 13, 15, 16, 17, 18, 19, 20, 21, 22, 23, 24, 25, 26, 27, 28, 29, 30, 31, 32, 33, 34, 35, 36, 37, 38, 39, 40, 41, 42, 43, 44, 45, 46, 47, 48, 49, 50, 51, 52, 53, 54, 55, 56, 57, 58, 59, 60, 61, 62, 63, 64, 65, 66, 67, 68, 69, 70, 106, 88, 89, 90, 91, 92, 71, 72, 73, 74, 75, 97, 98, 99, 100, 101, 107, 247, 248, 249, 250, 251, 269, 270, 271, 255, 272, 273, 290, 291, 292, 293, 294, 295, 296, 297, 298, 299, 300, 301, 302, 303, 304, 305, 306, 307, 308, 309, 310, 311, 318, 319, 320, 321, 322, 323, 324, 325, 326, 327, 328] (by decide +kernel) (by decide +kernel)
set_option maxRecDepth 20000 in
theorem gX2_readLine_X2_readRule : GoodIn wsX2_readLine (wsV RX2 78 RX2 yX2_readRule wsX2_readRule) := goodIn_app (goodIn_of _ (by decide +kernel)) ggX2_readLine_X2_readRule
set_option maxRecDepth 20000 in
theorem ggX2_readLine_X2_readChange : GoodIn wsX2_readLine wsX2_readChange := goodIn_r _ [277, 1, 2, 84, 265, 266, 267, 9, 268, 176, 102, 103, 14, 104, 105, 12, 13, 15, 16, 17, 18, 19, 20, 21, 22, 23, 24, 25, 26, 27, 28, 29, 30, 31, 32, 33, 34, 35, 36, 37, 38, 39, 40, 41, 42, 43, 44, 45, 46, 47, 48, 49, 50, 51, 52, 53, 54, 55, 56, 57, 58, 59, 60, 61, 62, 63, 64, 65, 66, 67, 68, 69, 70, 106, 88, 89, 90, 91, 92, 71, 72, 73, 74, 75, 97, 98, 99, 100, 101, 107, 108, 109, 110, 111, 247, 248, 249, 250, 251, 278, 279, 280, 255, 281, 282, 283, 284, 285, 290, 291, 292, 293, 294, 295, 296, 297, 298, 299, 300, 301, 302, 303, 304, 305, 306, 307, 308, 309, 310, 311, 318, 319, 320, 321, 322, 323, 324, 325, 326, 327, 328] (by decide +kernel) (by decide +kernel)
set_option maxRecDepth 20000 in
theorem gX2_readLine_X2_readChange : GoodIn wsX2_readLine (wsV RX2 81 RX2 yX2_readChange wsX2_readChange) := goodIn_app (goodIn_of _ (by decide +kernel)) ggX2_readLine_X2_readChange
set_option maxRecDepth 20000 in
theorem ggX2_readLine_X9_expectSign : GoodIn wsX2_readLine wsX9_expectSign := goodIn_r _ [289, 16, 17, 106, 88, 89, 14, 90, 18, 20, 21, 19, 91, 92, 107, 72, 73, 74, 75, 304, 305, 306, 307, 308, 309, 310, 311] (by decide +kernel) (by decide +kernel)
set_option maxRecDepth 20000 in
theorem gX2_readLine_X9_expectSign : GoodIn wsX2_readLine (wsV RX2 84 RX9 yX9_expectSign wsX9_expectSign) := goodIn_app (goodIn_of _ (by decide +kernel)) ggX2_readLine_X9_expectSign
theorem dX2_readLine_0 : decode cX2_readLine 0 = .ok (.aload_n 0, 1) := by decide +kernel
theorem dX2_readLine_1 : decode cX2_readLine 1 = .ok (.invokevirtual 35, 3) := by decide +kernel
theorem dX2_readLine_4 : decode cX2_readLine 4 = .ok (.istore_n 2, 1) := by decide +kernel
theorem dX2_readLine_5 : decode cX2_readLine 5 = .ok (.iload_n 2, 1) := by decide +kernel
theorem dX2_readLine_6 : decode cX2_readLine 6 = .ok (.iconst (-1), 1) := by decide +kernel
theorem dX2_readLine_7 : decode cX2_readLine 7 = .ok (.if_icmp .ne 14, 3) := by decide +kernel
theorem dX2_readLine_10 : decode cX2_readLine 10 = .ok (.aload_n 0, 1) := by decide +kernel
theorem dX2_readLine_11 : decode cX2_readLine 11 = .ok (.getfield 18, 3) := by decide +kernel
theorem dX2_readLine_14 : decode cX2_readLine 14 = .ok (.iconst 1, 1) := by decide +kernel
theorem dX2_readLine_15 : decode cX2_readLine 15 = .ok (.invokevirtual 39, 3) := by decide +kernel
theorem dX2_readLine_18 : decode cX2_readLine 18 = .ok (.goto 51, 3) := by decide +kernel
theorem dX2_readLine_21 : decode cX2_readLine 21 = .ok (.iload_n 2, 1) := by decide +kernel
theorem dX2_readLine_22 : decode cX2_readLine 22 = .ok (.iconst 4, 1) := by decide +kernel
theorem dX2_readLine_23 : decode cX2_readLine 23 = .ok (.if_icmp .ne 24, 3) := by decide +kernel
theorem dX2_readLine_26 : decode cX2_readLine 26 = .ok (.aload_n 0, 1) := by decide +kernel
theorem dX2_readLine_27 : decode cX2_readLine 27 = .ok (.getfield 12, 3) := by decide +kernel
theorem dX2_readLine_30 : decode cX2_readLine 30 = .ok (.getfield 42, 3) := by decide +kernel
theorem dX2_readLine_33 : decode cX2_readLine 33 = .ok (.ifCond .eq 14, 3) := by decide +kernel
theorem dX2_readLine_36 : decode cX2_readLine 36 = .ok (.aload_n 0, 1) := by decide +kernel
theorem dX2_readLine_37 : decode cX2_readLine 37 = .ok (.getfield 18, 3) := by decide +kernel
theorem dX2_readLine_40 : decode cX2_readLine 40 = .ok (.iconst 2, 1) := by decide +kernel
theorem dX2_readLine_41 : decode cX2_readLine 41 = .ok (.invokevirtual 39, 3) := by decide +kernel
theorem dX2_readLine_44 : decode cX2_readLine 44 = .ok (.goto 25, 3) := by decide +kernel
theorem dX2_readLine_47 : decode cX2_readLine 47 = .ok (.iload_n 1, 1) := by decide +kernel
theorem dX2_readLine_48 : decode cX2_readLine 48 = .ok (.bipush 60, 2) := by decide +kernel
theorem dX2_readLine_50 : decode cX2_readLine 50 = .ok (.if_icmp .ge 11, 3) := by decide +kernel
theorem dX2_readLine_53 : decode cX2_readLine 53 = .ok (.aload_n 0, 1) := by decide +kernel
theorem dX2_readLine_54 : decode cX2_readLine 54 = .ok (.iload_n 2, 1) := by decide +kernel
theorem dX2_readLine_55 : decode cX2_readLine 55 = .ok (.invokevirtual 46, 3) := by decide +kernel
theorem dX2_readLine_58 : decode cX2_readLine 58 = .ok (.ifCond .eq 11, 3) := by decide +kernel
theorem dX2_readLine_61 : decode cX2_readLine 61 = .ok (.aload_n 0, 1) := by decide +kernel
theorem dX2_readLine_62 : decode cX2_readLine 62 = .ok (.getfield 18, 3) := by decide +kernel
theorem dX2_readLine_65 : decode cX2_readLine 65 = .ok (.iconst 3, 1) := by decide +kernel
theorem dX2_readLine_66 : decode cX2_readLine 66 = .ok (.invokevirtual 39, 3) := by decide +kernel
theorem dX2_readLine_69 : decode cX2_readLine 69 = .ok (.aload_n 0, 1) := by decide +kernel
theorem dX2_readLine_70 : decode cX2_readLine 70 = .ok (.getfield 18, 3) := by decide +kernel
theorem dX2_readLine_73 : decode cX2_readLine 73 = .ok (.getfield 50, 3) := by decide +kernel
theorem dX2_readLine_76 : decode cX2_readLine 76 = .ok (.ifCond .eq 4, 3) := by decide +kernel
theorem dX2_readLine_79 : decode cX2_readLine 79 = .ok (.return_, 1) := by decide +kernel
theorem dX2_readLine_80 : decode cX2_readLine 80 = .ok (.aload_n 0, 1) := by decide +kernel
theorem dX2_readLine_81 : decode cX2_readLine 81 = .ok (.getfield 18, 3) := by decide +kernel
theorem dX2_readLine_84 : decode cX2_readLine 84 = .ok (.invokevirtual 54, 3) := by decide +kernel
theorem dX2_readLine_87 : decode cX2_readLine 87 = .ok (.iload_n 2, 1) := by decide +kernel
theorem dX2_readLine_88 : decode cX2_readLine 88 = .ok (.tableswitch 104 0 7 #[48, 55, 62, 69, 76, 83, 90, 97], 48) := by decide +kernel
theorem dX2_readLine_136 : decode cX2_readLine 136 = .ok (.aload_n 0, 1) := by decide +kernel
theorem dX2_readLine_137 : decode cX2_readLine 137 = .ok (.invokevirtual 57, 3) := by decide +kernel
theorem dX2_readLine_140 : decode cX2_readLine 140 = .ok (.goto 56, 3) := by decide +kernel
theorem dX2_readLine_143 : decode cX2_readLine 143 = .ok (.aload_n 0, 1) := by decide +kernel
theorem dX2_readLine_144 : decode cX2_readLine 144 = .ok (.invokevirtual 60, 3) := by decide +kernel
theorem dX2_readLine_147 : decode cX2_readLine 147 = .ok (.goto 49, 3) := by decide +kernel
theorem dX2_readLine_150 : decode cX2_readLine 150 = .ok (.aload_n 0, 1) := by decide +kernel
theorem dX2_readLine_151 : decode cX2_readLine 151 = .ok (.invokevirtual 63, 3) := by decide +kernel
theorem dX2_readLine_154 : decode cX2_readLine 154 = .ok (.goto 42, 3) := by decide +kernel
theorem dX2_readLine_157 : decode cX2_readLine 157 = .ok (.aload_n 0, 1) := by decide +kernel
theorem dX2_readLine_158 : decode cX2_readLine 158 = .ok (.invokevirtual 66, 3) := by decide +kernel
theorem dX2_readLine_161 : decode cX2_readLine 161 = .ok (.goto 35, 3) := by decide +kernel
theorem dX2_readLine_164 : decode cX2_readLine 164 = .ok (.aload_n 0, 1) := by decide +kernel
theorem dX2_readLine_165 : decode cX2_readLine 165 = .ok (.invokevirtual 69, 3) := by decide +kernel
theorem dX2_readLine_168 : decode cX2_readLine 168 = .ok (.goto 28, 3) := by decide +kernel
theorem dX2_readLine_171 : decode cX2_readLine 171 = .ok (.aload_n 0, 1) := by decide +kernel
theorem dX2_readLine_172 : decode cX2_readLine 172 = .ok (.invokevirtual 72, 3) := by decide +kernel
theorem dX2_readLine_175 : decode cX2_readLine 175 = .ok (.goto 21, 3) := by decide +kernel
theorem dX2_readLine_178 : decode cX2_readLine 178 = .ok (.aload_n 0, 1) := by decide +kernel
theorem dX2_readLine_179 : decode cX2_readLine 179 = .ok (.invokevirtual 75, 3) := by decide +kernel
theorem dX2_readLine_182 : decode cX2_readLine 182 = .ok (.goto 14, 3) := by decide +kernel
theorem dX2_readLine_185 : decode cX2_readLine 185 = .ok (.aload_n 0, 1) := by decide +kernel
theorem dX2_readLine_186 : decode cX2_readLine 186 = .ok (.invokevirtual 78, 3) := by decide +kernel
theorem dX2_readLine_189 : decode cX2_readLine 189 = .ok (.goto 7, 3) := by decide +kernel
theorem dX2_readLine_192 : decode cX2_readLine 192 = .ok (.aload_n 0, 1) := by decide +kernel
theorem dX2_readLine_193 : decode cX2_readLine 193 = .ok (.invokevirtual 81, 3) := by decide +kernel
theorem dX2_readLine_196 : decode cX2_readLine 196 = .ok (.aload_n 0, 1) := by decide +kernel
theorem dX2_readLine_197 : decode cX2_readLine 197 = .ok (.getfield 18, 3) := by decide +kernel
theorem dX2_readLine_200 : decode cX2_readLine 200 = .ok (.invokevirtual 84, 3) := by decide +kernel
theorem dX2_readLine_203 : decode cX2_readLine 203 = .ok (.aload_n 0, 1) := by decide +kernel
theorem dX2_readLine_204 : decode cX2_readLine 204 = .ok (.getfield 12, 3) := by decide +kernel
theorem dX2_readLine_207 : decode cX2_readLine 207 = .ok (.dup, 1) := by decide +kernel
theorem dX2_readLine_208 : decode cX2_readLine 208 = .ok (.getfield 87, 3) := by decide +kernel
theorem dX2_readLine_211 : decode cX2_readLine 211 = .ok (.iconst 1, 1) := by decide +kernel
theorem dX2_readLine_212 : decode cX2_readLine 212 = .ok (.iadd, 1) := by decide +kernel
theorem dX2_readLine_213 : decode cX2_readLine 213 = .ok (.putfield 87, 3) := by decide +kernel
theorem dX2_readLine_216 : decode cX2_readLine 216 = .ok (.return_, 1) := by decide +kernel
set_option maxRecDepth 20000 in
theorem ggX2_kindOfLine_X9_isAt : GoodIn wsX2_kindOfLine wsX9_isAt := goodIn_r _ [6, 7, 8, 9, 10, 11, 12, 13, 14, 15, 16, 17, 18, 19, 20, 21, 22, 23, 24, 25, 26, 27, 28, 29, 30, 31, 32, 33, 34, 35, 36, 37, 38, 39, 40, 41, 42, 43, 44, 45, 46, 47, 48, 49, 50, 51, 52, 53, 54, 55, 56, 57, 58, 59, 60, 61, 64, 65, 66, 67, 68, 69, 70, 71] (by decide +kernel) (by decide +kernel)
set_option maxRecDepth 20000 in
theorem gX2_kindOfLine_X9_isAt : GoodIn wsX2_kindOfLine (wsV RX2 92 RX9 yX9_isAt wsX9_isAt) := goodIn_app (goodIn_of _ (by decide +kernel)) ggX2_kindOfLine_X9_isAt
theorem dX2_kindOfLine_0 : decode cX2_kindOfLine 0 = .ok (.aload_n 0, 1) := by decide +kernel
theorem dX2_kindOfLine_1 : decode cX2_kindOfLine 1 = .ok (.getfield 18, 3) := by decide +kernel
theorem dX2_kindOfLine_4 : decode cX2_kindOfLine 4 = .ok (.ldc 90, 2) := by decide +kernel
theorem dX2_kindOfLine_6 : decode cX2_kindOfLine 6 = .ok (.invokevirtual 92, 3) := by decide +kernel
theorem dX2_kindOfLine_9 : decode cX2_kindOfLine 9 = .ok (.ifCond .eq 7, 3) := by decide +kernel
theorem dX2_kindOfLine_12 : decode cX2_kindOfLine 12 = .ok (.iconst 0, 1) := by decide +kernel
theorem dX2_kindOfLine_13 : decode cX2_kindOfLine 13 = .ok (.goto 135, 3) := by decide +kernel
theorem dX2_kindOfLine_16 : decode cX2_kindOfLine 16 = .ok (.aload_n 0, 1) := by decide +kernel
theorem dX2_kindOfLine_17 : decode cX2_kindOfLine 17 = .ok (.getfield 18, 3) := by decide +kernel
theorem dX2_kindOfLine_20 : decode cX2_kindOfLine 20 = .ok (.ldc 96, 2) := by decide +kernel
theorem dX2_kindOfLine_22 : decode cX2_kindOfLine 22 = .ok (.invokevirtual 92, 3) := by decide +kernel
theorem dX2_kindOfLine_25 : decode cX2_kindOfLine 25 = .ok (.ifCond .eq 7, 3) := by decide +kernel
theorem dX2_kindOfLine_28 : decode cX2_kindOfLine 28 = .ok (.iconst 1, 1) := by decide +kernel
theorem dX2_kindOfLine_29 : decode cX2_kindOfLine 29 = .ok (.goto 119, 3) := by decide +kernel
theorem dX2_kindOfLine_32 : decode cX2_kindOfLine 32 = .ok (.aload_n 0, 1) := by decide +kernel
theorem dX2_kindOfLine_33 : decode cX2_kindOfLine 33 = .ok (.getfield 18, 3) := by decide +kernel
theorem dX2_kindOfLine_36 : decode cX2_kindOfLine 36 = .ok (.ldc 98, 2) := by decide +kernel
theorem dX2_kindOfLine_38 : decode cX2_kindOfLine 38 = .ok (.invokevirtual 92, 3) := by decide +kernel
theorem dX2_kindOfLine_41 : decode cX2_kindOfLine 41 = .ok (.ifCond .eq 7, 3) := by decide +kernel
theorem dX2_kindOfLine_44 : decode cX2_kindOfLine 44 = .ok (.iconst 2, 1) := by decide +kernel
theorem dX2_kindOfLine_45 : decode cX2_kindOfLine 45 = .ok (.goto 103, 3) := by decide +kernel
theorem dX2_kindOfLine_48 : decode cX2_kindOfLine 48 = .ok (.aload_n 0, 1) := by decide +kernel
theorem dX2_kindOfLine_49 : decode cX2_kindOfLine 49 = .ok (.getfield 18, 3) := by decide +kernel
theorem dX2_kindOfLine_52 : decode cX2_kindOfLine 52 = .ok (.ldc 100, 2) := by decide +kernel
theorem dX2_kindOfLine_54 : decode cX2_kindOfLine 54 = .ok (.invokevirtual 92, 3) := by decide +kernel
theorem dX2_kindOfLine_57 : decode cX2_kindOfLine 57 = .ok (.ifCond .eq 7, 3) := by decide +kernel
theorem dX2_kindOfLine_60 : decode cX2_kindOfLine 60 = .ok (.iconst 3, 1) := by decide +kernel
theorem dX2_kindOfLine_61 : decode cX2_kindOfLine 61 = .ok (.goto 87, 3) := by decide +kernel
theorem dX2_kindOfLine_64 : decode cX2_kindOfLine 64 = .ok (.aload_n 0, 1) := by decide +kernel
theorem dX2_kindOfLine_65 : decode cX2_kindOfLine 65 = .ok (.getfield 18, 3) := by decide +kernel
theorem dX2_kindOfLine_68 : decode cX2_kindOfLine 68 = .ok (.ldc 102, 2) := by decide +kernel
theorem dX2_kindOfLine_70 : decode cX2_kindOfLine 70 = .ok (.invokevirtual 92, 3) := by decide +kernel
theorem dX2_kindOfLine_73 : decode cX2_kindOfLine 73 = .ok (.ifCond .eq 7, 3) := by decide +kernel
theorem dX2_kindOfLine_76 : decode cX2_kindOfLine 76 = .ok (.iconst 4, 1) := by decide +kernel
theorem dX2_kindOfLine_77 : decode cX2_kindOfLine 77 = .ok (.goto 71, 3) := by decide +kernel
theorem dX2_kindOfLine_80 : decode cX2_kindOfLine 80 = .ok (.aload_n 0, 1) := by decide +kernel
theorem dX2_kindOfLine_81 : decode cX2_kindOfLine 81 = .ok (.getfield 18, 3) := by decide +kernel
theorem dX2_kindOfLine_84 : decode cX2_kindOfLine 84 = .ok (.ldc 104, 2) := by decide +kernel
theorem dX2_kindOfLine_86 : decode cX2_kindOfLine 86 = .ok (.invokevirtual 92, 3) := by decide +kernel
theorem dX2_kindOfLine_89 : decode cX2_kindOfLine 89 = .ok (.ifCond .eq 7, 3) := by decide +kernel
theorem dX2_kindOfLine_92 : decode cX2_kindOfLine 92 = .ok (.iconst 5, 1) := by decide +kernel
theorem dX2_kindOfLine_93 : decode cX2_kindOfLine 93 = .ok (.goto 55, 3) := by decide +kernel
theorem dX2_kindOfLine_96 : decode cX2_kindOfLine 96 = .ok (.aload_n 0, 1) := by decide +kernel
theorem dX2_kindOfLine_97 : decode cX2_kindOfLine 97 = .ok (.getfield 18, 3) := by decide +kernel
theorem dX2_kindOfLine_100 : decode cX2_kindOfLine 100 = .ok (.ldc 106, 2) := by decide +kernel
theorem dX2_kindOfLine_102 : decode cX2_kindOfLine 102 = .ok (.invokevirtual 92, 3) := by decide +kernel
theorem dX2_kindOfLine_105 : decode cX2_kindOfLine 105 = .ok (.ifCond .eq 8, 3) := by decide +kernel
theorem dX2_kindOfLine_108 : decode cX2_kindOfLine 108 = .ok (.bipush 6, 2) := by decide +kernel
theorem dX2_kindOfLine_110 : decode cX2_kindOfLine 110 = .ok (.goto 38, 3) := by decide +kernel
theorem dX2_kindOfLine_113 : decode cX2_kindOfLine 113 = .ok (.aload_n 0, 1) := by decide +kernel
theorem dX2_kindOfLine_114 : decode cX2_kindOfLine 114 = .ok (.getfield 18, 3) := by decide +kernel
theorem dX2_kindOfLine_117 : decode cX2_kindOfLine 117 = .ok (.ldc 108, 2) := by decide +kernel
theorem dX2_kindOfLine_119 : decode cX2_kindOfLine 119 = .ok (.invokevirtual 92, 3) := by decide +kernel
theorem dX2_kindOfLine_122 : decode cX2_kindOfLine 122 = .ok (.ifCond .eq 8, 3) := by decide +kernel
theorem dX2_kindOfLine_125 : decode cX2_kindOfLine 125 = .ok (.bipush 7, 2) := by decide +kernel
theorem dX2_kindOfLine_127 : decode cX2_kindOfLine 127 = .ok (.goto 21, 3) := by decide +kernel
theorem dX2_kindOfLine_130 : decode cX2_kindOfLine 130 = .ok (.aload_n 0, 1) := by decide +kernel
theorem dX2_kindOfLine_131 : decode cX2_kindOfLine 131 = .ok (.getfield 18, 3) := by decide +kernel
theorem dX2_kindOfLine_134 : decode cX2_kindOfLine 134 = .ok (.ldc 110, 2) := by decide +kernel
theorem dX2_kindOfLine_136 : decode cX2_kindOfLine 136 = .ok (.invokevirtual 92, 3) := by decide +kernel
theorem dX2_kindOfLine_139 : decode cX2_kindOfLine 139 = .ok (.ifCond .eq 8, 3) := by decide +kernel
theorem dX2_kindOfLine_142 : decode cX2_kindOfLine 142 = .ok (.bipush 8, 2) := by decide +kernel
theorem dX2_kindOfLine_144 : decode cX2_kindOfLine 144 = .ok (.goto 4, 3) := by decide +kernel
theorem dX2_kindOfLine_147 : decode cX2_kindOfLine 147 = .ok (.iconst (-1), 1) := by decide +kernel
theorem dX2_kindOfLine_148 : decode cX2_kindOfLine 148 = .ok (.ireturn, 1) := by decide +kernel
theorem dX2_isFull_0 : decode cX2_isFull 0 = .ok (.iload_n 1, 1) := by decide +kernel
theorem dX2_isFull_1 : decode cX2_isFull 1 = .ok (.tableswitch 150 0 8 #[51, 69, 150, 150, 150, 87, 108, 150, 129], 51) := by decide +kernel
theorem dX2_isFull_52 : decode cX2_isFull 52 = .ok (.aload_n 0, 1) := by decide +kernel
theorem dX2_isFull_53 : decode cX2_isFull 53 = .ok (.getfield 12, 3) := by decide +kernel
theorem dX2_isFull_56 : decode cX2_isFull 56 = .ok (.getfield 112, 3) := by decide +kernel
theorem dX2_isFull_59 : decode cX2_isFull 59 = .ok (.bipush 8, 2) := by decide +kernel
theorem dX2_isFull_61 : decode cX2_isFull 61 = .ok (.if_icmp .lt 7, 3) := by decide +kernel
theorem dX2_isFull_64 : decode cX2_isFull 64 = .ok (.iconst 1, 1) := by decide +kernel
theorem dX2_isFull_65 : decode cX2_isFull 65 = .ok (.goto 4, 3) := by decide +kernel
theorem dX2_isFull_68 : decode cX2_isFull 68 = .ok (.iconst 0, 1) := by decide +kernel
theorem dX2_isFull_69 : decode cX2_isFull 69 = .ok (.ireturn, 1) := by decide +kernel
theorem dX2_isFull_70 : decode cX2_isFull 70 = .ok (.aload_n 0, 1) := by decide +kernel
theorem dX2_isFull_71 : decode cX2_isFull 71 = .ok (.getfield 12, 3) := by decide +kernel
theorem dX2_isFull_74 : decode cX2_isFull 74 = .ok (.getfield 115, 3) := by decide +kernel
theorem dX2_isFull_77 : decode cX2_isFull 77 = .ok (.bipush 12, 2) := by decide +kernel
theorem dX2_isFull_79 : decode cX2_isFull 79 = .ok (.if_icmp .lt 7, 3) := by decide +kernel
theorem dX2_isFull_82 : decode cX2_isFull 82 = .ok (.iconst 1, 1) := by decide +kernel
theorem dX2_isFull_83 : decode cX2_isFull 83 = .ok (.goto 4, 3) := by decide +kernel
theorem dX2_isFull_86 : decode cX2_isFull 86 = .ok (.iconst 0, 1) := by decide +kernel
theorem dX2_isFull_87 : decode cX2_isFull 87 = .ok (.ireturn, 1) := by decide +kernel
theorem dX2_isFull_88 : decode cX2_isFull 88 = .ok (.aload_n 0, 1) := by decide +kernel
theorem dX2_isFull_89 : decode cX2_isFull 89 = .ok (.getfield 12, 3) := by decide +kernel
theorem dX2_isFull_92 : decode cX2_isFull 92 = .ok (.getfield 118, 3) := by decide +kernel
theorem dX2_isFull_95 : decode cX2_isFull 95 = .ok (.getfield 122, 3) := by decide +kernel
theorem dX2_isFull_98 : decode cX2_isFull 98 = .ok (.bipush 12, 2) := by decide +kernel
theorem dX2_isFull_100 : decode cX2_isFull 100 = .ok (.if_icmp .lt 7, 3) := by decide +kernel
theorem dX2_isFull_103 : decode cX2_isFull 103 = .ok (.iconst 1, 1) := by decide +kernel
theorem dX2_isFull_104 : decode cX2_isFull 104 = .ok (.goto 4, 3) := by decide +kernel
theorem dX2_isFull_107 : decode cX2_isFull 107 = .ok (.iconst 0, 1) := by decide +kernel
theorem dX2_isFull_108 : decode cX2_isFull 108 = .ok (.ireturn, 1) := by decide +kernel
theorem dX2_isFull_109 : decode cX2_isFull 109 = .ok (.aload_n 0, 1) := by decide +kernel
theorem dX2_isFull_110 : decode cX2_isFull 110 = .ok (.getfield 12, 3) := by decide +kernel
theorem dX2_isFull_113 : decode cX2_isFull 113 = .ok (.getfield 127, 3) := by decide +kernel
theorem dX2_isFull_116 : decode cX2_isFull 116 = .ok (.getfield 131, 3) := by decide +kernel
theorem dX2_isFull_119 : decode cX2_isFull 119 = .ok (.bipush 12, 2) := by decide +kernel
theorem dX2_isFull_121 : decode cX2_isFull 121 = .ok (.if_icmp .lt 7, 3) := by decide +kernel
theorem dX2_isFull_124 : decode cX2_isFull 124 = .ok (.iconst 1, 1) := by decide +kernel
theorem dX2_isFull_125 : decode cX2_isFull 125 = .ok (.goto 4, 3) := by decide +kernel
theorem dX2_isFull_128 : decode cX2_isFull 128 = .ok (.iconst 0, 1) := by decide +kernel
theorem dX2_isFull_129 : decode cX2_isFull 129 = .ok (.ireturn, 1) := by decide +kernel
theorem dX2_isFull_130 : decode cX2_isFull 130 = .ok (.aload_n 0, 1) := by decide +kernel
theorem dX2_isFull_131 : decode cX2_isFull 131 = .ok (.getfield 12, 3) := by decide +kernel
theorem dX2_isFull_134 : decode cX2_isFull 134 = .ok (.getfield 127, 3) := by decide +kernel
theorem dX2_isFull_137 : decode cX2_isFull 137 = .ok (.getfield 136, 3) := by decide +kernel
theorem dX2_isFull_140 : decode cX2_isFull 140 = .ok (.bipush 20, 2) := by decide +kernel
theorem dX2_isFull_142 : decode cX2_isFull 142 = .ok (.if_icmp .lt 7, 3) := by decide +kernel
theorem dX2_isFull_145 : decode cX2_isFull 145 = .ok (.iconst 1, 1) := by decide +kernel
theorem dX2_isFull_146 : decode cX2_isFull 146 = .ok (.goto 4, 3) := by decide +kernel
theorem dX2_isFull_149 : decode cX2_isFull 149 = .ok (.iconst 0, 1) := by decide +kernel
theorem dX2_isFull_150 : decode cX2_isFull 150 = .ok (.ireturn, 1) := by decide +kernel
theorem dX2_isFull_151 : decode cX2_isFull 151 = .ok (.iconst 0, 1) := by decide +kernel
theorem dX2_isFull_152 : decode cX2_isFull 152 = .ok (.ireturn, 1) := by decide +kernel
set_option maxRecDepth 20000 in
theorem ggX2_readPot_X9_expect : GoodIn wsX2_readPot wsX9_expect := goodIn_r _ [7, 8, 9, 10, 6, 11, 12, 13, 14, 15, 16, 17, 18, 19, 20, 21, 22, 23, 24, 25, 26, 27, 28, 29, 30, 31, 32, 33, 34, 35, 36, 37, 38, 39, 40, 41, 42, 43, 44, 45, 46, 47, 48, 49, 50, 51, 52, 53, 54, 55, 56, 57, 58, 59, 60, 61, 62, 63, 64, 65, 66, 67, 68, 69, 70, 71, 72, 73, 74, 75, 76, 77, 78, 79, 80, 81, 100, 101, 102, 103, 104, 105, 106, 107] (by decide +kernel) (by decide +kernel)
set_option maxRecDepth 20000 in
theorem gX2_readPot_X9_expect : GoodIn wsX2_readPot (wsV RX2 140 RX9 yX9_expect wsX9_expect) := goodIn_app (goodIn_of _ (by decide +kernel)) ggX2_readPot_X9_expect
set_option maxRecDepth 20000 in
theorem ggX2_readPot_X9_expectNumber : GoodIn wsX2_readPot wsX9_expectNumber := goodIn_r _ [85, 17, 75, 16, 77, 78, 79, 6, 80, 19, 81, 71, 72, 73, 74, 18, 20, 21, 76, 100, 101, 102, 103, 104, 105, 106, 107] (by decide +kernel) (by decide +kernel)
set_option maxRecDepth 20000 in
theorem gX2_readPot_X9_expectNumber : GoodIn wsX2_readPot (wsV RX2 144 RX9 yX9_expectNumber wsX9_expectNumber) := goodIn_app (goodIn_of _ (by decide +kernel)) ggX2_readPot_X9_expectNumber
set_option maxRecDepth 20000 in
theorem ggX2_readPot_X10_addPot : GoodIn wsX2_readPot wsX10_addPot := goodIn_r _ [90, 91, 92, 93, 94, 95, 96, 89, 97, 108, 109, 110, 111, 112, 113, 114, 115, 116, 117, 118, 119] (by decide +kernel) (by decide +kernel)
set_option maxRecDepth 20000 in
theorem gX2_readPot_X10_addPot : GoodIn wsX2_readPot (wsV RX2 150 RX10 yX10_addPot wsX10_addPot) := goodIn_app (goodIn_of _ (by decide +kernel)) ggX2_readPot_X10_addPot
theorem dX2_readPot_0 : decode cX2_readPot 0 = .ok (.aload_n 0, 1) := by decide +kernel
theorem dX2_readPot_1 : decode cX2_readPot 1 = .ok (.getfield 18, 3) := by decide +kernel
theorem dX2_readPot_4 : decode cX2_readPot 4 = .ok (.ldc 139, 2) := by decide +kernel
theorem dX2_readPot_6 : decode cX2_readPot 6 = .ok (.invokevirtual 140, 3) := by decide +kernel
theorem dX2_readPot_9 : decode cX2_readPot 9 = .ok (.aload_n 0, 1) := by decide +kernel
theorem dX2_readPot_10 : decode cX2_readPot 10 = .ok (.getfield 18, 3) := by decide +kernel
theorem dX2_readPot_13 : decode cX2_readPot 13 = .ok (.iconst 0, 1) := by decide +kernel
theorem dX2_readPot_14 : decode cX2_readPot 14 = .ok (.bipush 99, 2) := by decide +kernel
theorem dX2_readPot_16 : decode cX2_readPot 16 = .ok (.invokevirtual 144, 3) := by decide +kernel
theorem dX2_readPot_19 : decode cX2_readPot 19 = .ok (.istore_n 1, 1) := by decide +kernel
theorem dX2_readPot_20 : decode cX2_readPot 20 = .ok (.aload_n 0, 1) := by decide +kernel
theorem dX2_readPot_21 : decode cX2_readPot 21 = .ok (.getfield 18, 3) := by decide +kernel
theorem dX2_readPot_24 : decode cX2_readPot 24 = .ok (.ldc 148, 2) := by decide +kernel
theorem dX2_readPot_26 : decode cX2_readPot 26 = .ok (.invokevirtual 140, 3) := by decide +kernel
theorem dX2_readPot_29 : decode cX2_readPot 29 = .ok (.aload_n 0, 1) := by decide +kernel
theorem dX2_readPot_30 : decode cX2_readPot 30 = .ok (.getfield 18, 3) := by decide +kernel
theorem dX2_readPot_33 : decode cX2_readPot 33 = .ok (.iconst 0, 1) := by decide +kernel
theorem dX2_readPot_34 : decode cX2_readPot 34 = .ok (.sipush 999, 3) := by decide +kernel
theorem dX2_readPot_37 : decode cX2_readPot 37 = .ok (.invokevirtual 144, 3) := by decide +kernel
theorem dX2_readPot_40 : decode cX2_readPot 40 = .ok (.istore_n 2, 1) := by decide +kernel
theorem dX2_readPot_41 : decode cX2_readPot 41 = .ok (.aload_n 0, 1) := by decide +kernel
theorem dX2_readPot_42 : decode cX2_readPot 42 = .ok (.getfield 12, 3) := by decide +kernel
theorem dX2_readPot_45 : decode cX2_readPot 45 = .ok (.iload_n 1, 1) := by decide +kernel
theorem dX2_readPot_46 : decode cX2_readPot 46 = .ok (.iload_n 2, 1) := by decide +kernel
theorem dX2_readPot_47 : decode cX2_readPot 47 = .ok (.invokevirtual 150, 3) := by decide +kernel
theorem dX2_readPot_50 : decode cX2_readPot 50 = .ok (.return_, 1) := by decide +kernel
set_option maxRecDepth 20000 in
theorem ggX2_readPipe_X9_expectNumber : GoodIn wsX2_readPipe wsX9_expectNumber := goodIn_r _ [14, 15, 16, 17, 18, 19, 20, 13, 21, 22, 23, 24, 25, 26, 27, 28, 29, 30, 31, 195, 196, 197, 198, 199, 200, 201, 202] (by decide +kernel) (by decide +kernel)
set_option maxRecDepth 20000 in
theorem gX2_readPipe_X9_expectNumber : GoodIn wsX2_readPipe (wsV RX2 144 RX9 yX9_expectNumber wsX9_expectNumber) := goodIn_app (goodIn_of _ (by decide +kernel)) ggX2_readPipe_X9_expectNumber
set_option maxRecDepth 20000 in
theorem ggX2_readPipe_X9_expect : GoodIn wsX2_readPipe wsX9_expect := goodIn_r _ [35, 36, 37, 38, 13, 39, 40, 41, 42, 43, 17, 15, 28, 22, 29, 30, 44, 45, 46, 47, 48, 49, 50, 51, 52, 53, 54, 55, 56, 57, 58, 59, 60, 61, 62, 63, 64, 65, 66, 67, 68, 69, 70, 71, 72, 73, 74, 75, 76, 77, 78, 79, 80, 81, 82, 83, 84, 85, 86, 87, 88, 89, 90, 91, 92, 24, 25, 26, 27, 16, 31, 18, 19, 20, 21, 23, 195, 196, 197, 198, 199, 200, 201, 202] (by decide +kernel) (by decide +kernel)
set_option maxRecDepth 20000 in
theorem gX2_readPipe_X9_expect : GoodIn wsX2_readPipe (wsV RX2 140 RX9 yX9_expect wsX9_expect) := goodIn_app (goodIn_of _ (by decide +kernel)) ggX2_readPipe_X9_expect
set_option maxRecDepth 20000 in
theorem ggX2_readPipe_X3_init : GoodIn wsX2_readPipe wsX3_init := goodIn_r _ [94, 95, 96, 97, 98, 99, 100, 101, 102, 103, 104, 105, 106, 107, 108, 109, 177, 178, 179, 180, 181, 182, 183, 184, 185, 186, 187] (by decide +kernel) (by decide +kernel)
set_option maxRecDepth 20000 in
theorem gX2_readPipe_X3_init_n162 : GoodIn wsX2_readPipe (wsX3_init) := ggX2_readPipe_X3_init
set_option maxRecDepth 20000 in
theorem ggX2_readPipe_X2_readMoves : GoodIn wsX2_readPipe wsX2_readMoves := goodIn_r _ [114, 1, 115, 116, 41, 42, 13, 43, 17, 15, 28, 22, 29, 30, 44, 45, 46, 47, 48, 49, 50, 51, 52, 53, 54, 55, 56, 57, 58, 59, 60, 61, 62, 63, 64, 65, 66, 67, 68, 69, 70, 71, 72, 73, 74, 75, 76, 77, 78, 79, 80, 81, 82, 83, 84, 85, 86, 87, 88, 89, 90, 91, 92, 117, 19, 20, 21, 23, 118, 25, 26, 27, 16, 31, 10, 11, 12, 14, 18, 24, 119, 120, 121, 6, 122, 98, 103, 99, 100, 101, 123, 124, 125, 126, 102, 106, 107, 108, 109, 104, 127, 128, 129, 130, 131, 132, 163, 164, 177, 178, 179, 180, 181, 182, 183, 184, 185, 186, 187, 195, 196, 197, 198, 199, 200, 201, 202] (by decide +kernel) (by decide +kernel)
set_option maxRecDepth 20000 in
theorem gX2_readPipe_X2_readMoves : GoodIn wsX2_readPipe (wsV RX2 163 RX2 yX2_readMoves wsX2_readMoves) := goodIn_app (goodIn_of _ (by decide +kernel)) ggX2_readPipe_X2_readMoves
set_option maxRecDepth 20000 in
theorem ggX2_readPipe_X9_isAt : GoodIn wsX2_readPipe wsX9_isAt := goodIn_r _ [43, 17, 15, 28, 22, 29, 30, 44, 45, 46, 47, 48, 49, 50, 51, 52, 53, 54, 55, 56, 57, 58, 59, 60, 61, 62, 63, 64, 65, 66, 67, 68, 69, 70, 71, 72, 73, 74, 75, 76, 77, 78, 79, 80, 81, 82, 83, 84, 85, 86, 87, 88, 89, 90, 91, 92, 195, 196, 197, 198, 199, 200, 201, 202] (by decide +kernel) (by decide +kernel)
set_option maxRecDepth 20000 in
theorem gX2_readPipe_X9_isAt : GoodIn wsX2_readPipe (wsV RX2 92 RX9 yX9_isAt wsX9_isAt) := goodIn_app (goodIn_of _ (by decide +kernel)) ggX2_readPipe_X9_isAt
set_option maxRecDepth 20000 in
theorem ggX2_readPipe_X10_comes : GoodIn wsX2_readPipe wsX10_comes := goodIn_r _ [137, 138, 139, 140, 141, 142, 136, 143, 144, 177, 178, 179, 180, 181, 182, 183, 184, 185, 186, 187, 165, 166, 167, 168, 169, 170, 171, 172, 173, 174, 175, 176] (by decide +kernel) (by decide +kernel)
set_option maxRecDepth 20000 in
theorem gX2_readPipe_X10_comes : GoodIn wsX2_readPipe (wsV RX2 169 RX10 yX10_comes wsX10_comes) := goodIn_app (goodIn_of _ (by decide +kernel)) ggX2_readPipe_X10_comes
set_option maxRecDepth 20000 in
theorem ggX2_readPipe_X9_fail : GoodIn wsX2_readPipe wsX9_fail := goodIn_r _ [21, 17, 22, 23, 195, 196, 197, 198, 199, 200, 201, 202] (by decide +kernel) (by decide +kernel)
set_option maxRecDepth 20000 in
theorem gX2_readPipe_X9_fail : GoodIn wsX2_readPipe (wsV RX2 39 RX9 yX9_fail wsX9_fail) := goodIn_app (goodIn_of _ (by decide +kernel)) ggX2_readPipe_X9_fail
set_option maxRecDepth 20000 in
theorem ggX2_readPipe_X9_passes : GoodIn wsX2_readPipe wsX9_passes := goodIn_r _ [39, 40, 41, 42, 13, 43, 17, 15, 28, 22, 29, 30, 44, 45, 46, 47, 48, 49, 50, 51, 52, 53, 54, 55, 56, 57, 58, 59, 60, 61, 62, 63, 64, 65, 66, 67, 68, 69, 70, 71, 72, 73, 74, 75, 76, 77, 78, 79, 80, 81, 82, 83, 84, 85, 86, 87, 88, 89, 90, 91, 92, 24, 25, 26, 27, 16, 31, 195, 196, 197, 198, 199, 200, 201, 202] (by decide +kernel) (by decide +kernel)
set_option maxRecDepth 20000 in
theorem gX2_readPipe_X9_passes : GoodIn wsX2_readPipe (wsV RX2 177 RX9 yX9_passes wsX9_passes) := goodIn_app (goodIn_of _ (by decide +kernel)) ggX2_readPipe_X9_passes
set_option maxRecDepth 20000 in
theorem ggX2_readPipe_X5_init : GoodIn wsX2_readPipe wsX5_init := goodIn_r _ [148, 149, 96, 97, 150, 151, 152, 153, 154, 155, 156, 188, 189, 190, 191, 192, 193, 194] (by decide +kernel) (by decide +kernel)
set_option maxRecDepth 20000 in
theorem gX2_readPipe_X5_init : GoodIn wsX2_readPipe (wsX5_init) := ggX2_readPipe_X5_init
set_option maxRecDepth 20000 in
theorem ggX2_readPipe_X10_addPipe : GoodIn wsX2_readPipe wsX10_addPipe := goodIn_r _ [160, 161, 162, 165, 166, 167, 168, 169, 170, 171, 172, 173, 174, 175, 176] (by decide +kernel) (by decide +kernel)
set_option maxRecDepth 20000 in
theorem gX2_readPipe_X10_addPipe : GoodIn wsX2_readPipe (wsV RX2 187 RX10 yX10_addPipe wsX10_addPipe) := goodIn_app (goodIn_of _ (by decide +kernel)) ggX2_readPipe_X10_addPipe
theorem dX2_readPipe_0 : decode cX2_readPipe 0 = .ok (.aload_n 0, 1) := by decide +kernel
theorem dX2_readPipe_1 : decode cX2_readPipe 1 = .ok (.getfield 18, 3) := by decide +kernel
theorem dX2_readPipe_4 : decode cX2_readPipe 4 = .ok (.iconst 0, 1) := by decide +kernel
theorem dX2_readPipe_5 : decode cX2_readPipe 5 = .ok (.aload_n 0, 1) := by decide +kernel
theorem dX2_readPipe_6 : decode cX2_readPipe 6 = .ok (.getfield 12, 3) := by decide +kernel
theorem dX2_readPipe_9 : decode cX2_readPipe 9 = .ok (.getfield 112, 3) := by decide +kernel
theorem dX2_readPipe_12 : decode cX2_readPipe 12 = .ok (.iconst 1, 1) := by decide +kernel
theorem dX2_readPipe_13 : decode cX2_readPipe 13 = .ok (.isub, 1) := by decide +kernel
theorem dX2_readPipe_14 : decode cX2_readPipe 14 = .ok (.invokevirtual 144, 3) := by decide +kernel
theorem dX2_readPipe_17 : decode cX2_readPipe 17 = .ok (.istore_n 1, 1) := by decide +kernel
theorem dX2_readPipe_18 : decode cX2_readPipe 18 = .ok (.aload_n 0, 1) := by decide +kernel
theorem dX2_readPipe_19 : decode cX2_readPipe 19 = .ok (.getfield 18, 3) := by decide +kernel
theorem dX2_readPipe_22 : decode cX2_readPipe 22 = .ok (.ldc 154, 2) := by decide +kernel
theorem dX2_readPipe_24 : decode cX2_readPipe 24 = .ok (.invokevirtual 140, 3) := by decide +kernel
theorem dX2_readPipe_27 : decode cX2_readPipe 27 = .ok (.aload_n 0, 1) := by decide +kernel
theorem dX2_readPipe_28 : decode cX2_readPipe 28 = .ok (.getfield 18, 3) := by decide +kernel
theorem dX2_readPipe_31 : decode cX2_readPipe 31 = .ok (.iload_n 1, 1) := by decide +kernel
theorem dX2_readPipe_32 : decode cX2_readPipe 32 = .ok (.iconst 1, 1) := by decide +kernel
theorem dX2_readPipe_33 : decode cX2_readPipe 33 = .ok (.iadd, 1) := by decide +kernel
theorem dX2_readPipe_34 : decode cX2_readPipe 34 = .ok (.aload_n 0, 1) := by decide +kernel
theorem dX2_readPipe_35 : decode cX2_readPipe 35 = .ok (.getfield 12, 3) := by decide +kernel
theorem dX2_readPipe_38 : decode cX2_readPipe 38 = .ok (.getfield 112, 3) := by decide +kernel
theorem dX2_readPipe_41 : decode cX2_readPipe 41 = .ok (.iconst 1, 1) := by decide +kernel
theorem dX2_readPipe_42 : decode cX2_readPipe 42 = .ok (.isub, 1) := by decide +kernel
theorem dX2_readPipe_43 : decode cX2_readPipe 43 = .ok (.invokevirtual 144, 3) := by decide +kernel
theorem dX2_readPipe_46 : decode cX2_readPipe 46 = .ok (.istore_n 2, 1) := by decide +kernel
theorem dX2_readPipe_47 : decode cX2_readPipe 47 = .ok (.aload_n 0, 1) := by decide +kernel
theorem dX2_readPipe_48 : decode cX2_readPipe 48 = .ok (.getfield 18, 3) := by decide +kernel
theorem dX2_readPipe_51 : decode cX2_readPipe 51 = .ok (.ldc 156, 2) := by decide +kernel
theorem dX2_readPipe_53 : decode cX2_readPipe 53 = .ok (.invokevirtual 140, 3) := by decide +kernel
theorem dX2_readPipe_56 : decode cX2_readPipe 56 = .ok (.aload_n 0, 1) := by decide +kernel
theorem dX2_readPipe_57 : decode cX2_readPipe 57 = .ok (.getfield 18, 3) := by decide +kernel
theorem dX2_readPipe_60 : decode cX2_readPipe 60 = .ok (.iconst 1, 1) := by decide +kernel
theorem dX2_readPipe_61 : decode cX2_readPipe 61 = .ok (.bipush 40, 2) := by decide +kernel
theorem dX2_readPipe_63 : decode cX2_readPipe 63 = .ok (.invokevirtual 144, 3) := by decide +kernel
theorem dX2_readPipe_66 : decode cX2_readPipe 66 = .ok (.istore_n 3, 1) := by decide +kernel
theorem dX2_readPipe_67 : decode cX2_readPipe 67 = .ok (.aload_n 0, 1) := by decide +kernel
theorem dX2_readPipe_68 : decode cX2_readPipe 68 = .ok (.getfield 18, 3) := by decide +kernel
theorem dX2_readPipe_71 : decode cX2_readPipe 71 = .ok (.ldc 158, 2) := by decide +kernel
theorem dX2_readPipe_73 : decode cX2_readPipe 73 = .ok (.invokevirtual 140, 3) := by decide +kernel
theorem dX2_readPipe_76 : decode cX2_readPipe 76 = .ok (.new 160, 3) := by decide +kernel
theorem dX2_readPipe_79 : decode cX2_readPipe 79 = .ok (.dup, 1) := by decide +kernel
theorem dX2_readPipe_80 : decode cX2_readPipe 80 = .ok (.invokespecial 162, 3) := by decide +kernel
theorem dX2_readPipe_83 : decode cX2_readPipe 83 = .ok (.astore 4, 2) := by decide +kernel
theorem dX2_readPipe_85 : decode cX2_readPipe 85 = .ok (.aload_n 0, 1) := by decide +kernel
theorem dX2_readPipe_86 : decode cX2_readPipe 86 = .ok (.aload 4, 2) := by decide +kernel
theorem dX2_readPipe_88 : decode cX2_readPipe 88 = .ok (.invokevirtual 163, 3) := by decide +kernel
theorem dX2_readPipe_91 : decode cX2_readPipe 91 = .ok (.aload_n 0, 1) := by decide +kernel
theorem dX2_readPipe_92 : decode cX2_readPipe 92 = .ok (.getfield 18, 3) := by decide +kernel
theorem dX2_readPipe_95 : decode cX2_readPipe 95 = .ok (.ldc 167, 2) := by decide +kernel
theorem dX2_readPipe_97 : decode cX2_readPipe 97 = .ok (.invokevirtual 92, 3) := by decide +kernel
theorem dX2_readPipe_100 : decode cX2_readPipe 100 = .ok (.ifCond .eq 25, 3) := by decide +kernel
theorem dX2_readPipe_103 : decode cX2_readPipe 103 = .ok (.aload_n 0, 1) := by decide +kernel
theorem dX2_readPipe_104 : decode cX2_readPipe 104 = .ok (.getfield 12, 3) := by decide +kernel
theorem dX2_readPipe_107 : decode cX2_readPipe 107 = .ok (.aload 4, 2) := by decide +kernel
theorem dX2_readPipe_109 : decode cX2_readPipe 109 = .ok (.iload_n 1, 1) := by decide +kernel
theorem dX2_readPipe_110 : decode cX2_readPipe 110 = .ok (.iload_n 2, 1) := by decide +kernel
theorem dX2_readPipe_111 : decode cX2_readPipe 111 = .ok (.invokevirtual 169, 3) := by decide +kernel
theorem dX2_readPipe_114 : decode cX2_readPipe 114 = .ok (.ifCond .ne 11, 3) := by decide +kernel
theorem dX2_readPipe_117 : decode cX2_readPipe 117 = .ok (.aload_n 0, 1) := by decide +kernel
theorem dX2_readPipe_118 : decode cX2_readPipe 118 = .ok (.getfield 18, 3) := by decide +kernel
theorem dX2_readPipe_121 : decode cX2_readPipe 121 = .ok (.iconst 2, 1) := by decide +kernel
theorem dX2_readPipe_122 : decode cX2_readPipe 122 = .ok (.invokevirtual 39, 3) := by decide +kernel
theorem dX2_readPipe_125 : decode cX2_readPipe 125 = .ok (.aload_n 0, 1) := by decide +kernel
theorem dX2_readPipe_126 : decode cX2_readPipe 126 = .ok (.getfield 18, 3) := by decide +kernel
theorem dX2_readPipe_129 : decode cX2_readPipe 129 = .ok (.ldc 167, 2) := by decide +kernel
theorem dX2_readPipe_131 : decode cX2_readPipe 131 = .ok (.invokevirtual 140, 3) := by decide +kernel
theorem dX2_readPipe_134 : decode cX2_readPipe 134 = .ok (.aload_n 0, 1) := by decide +kernel
theorem dX2_readPipe_135 : decode cX2_readPipe 135 = .ok (.getfield 18, 3) := by decide +kernel
theorem dX2_readPipe_138 : decode cX2_readPipe 138 = .ok (.iconst 0, 1) := by decide +kernel
theorem dX2_readPipe_139 : decode cX2_readPipe 139 = .ok (.sipush 30000, 3) := by decide +kernel
theorem dX2_readPipe_142 : decode cX2_readPipe 142 = .ok (.invokevirtual 144, 3) := by decide +kernel
theorem dX2_readPipe_145 : decode cX2_readPipe 145 = .ok (.istore 5, 2) := by decide +kernel
theorem dX2_readPipe_147 : decode cX2_readPipe 147 = .ok (.aload_n 0, 1) := by decide +kernel
theorem dX2_readPipe_148 : decode cX2_readPipe 148 = .ok (.getfield 18, 3) := by decide +kernel
theorem dX2_readPipe_151 : decode cX2_readPipe 151 = .ok (.ldc 173, 2) := by decide +kernel
theorem dX2_readPipe_153 : decode cX2_readPipe 153 = .ok (.invokevirtual 140, 3) := by decide +kernel
theorem dX2_readPipe_156 : decode cX2_readPipe 156 = .ok (.aload_n 0, 1) := by decide +kernel
theorem dX2_readPipe_157 : decode cX2_readPipe 157 = .ok (.getfield 18, 3) := by decide +kernel
theorem dX2_readPipe_160 : decode cX2_readPipe 160 = .ok (.iconst 1, 1) := by decide +kernel
theorem dX2_readPipe_161 : decode cX2_readPipe 161 = .ok (.sipush 9999, 3) := by decide +kernel
theorem dX2_readPipe_164 : decode cX2_readPipe 164 = .ok (.invokevirtual 144, 3) := by decide +kernel
theorem dX2_readPipe_167 : decode cX2_readPipe 167 = .ok (.istore 6, 2) := by decide +kernel
theorem dX2_readPipe_169 : decode cX2_readPipe 169 = .ok (.aload_n 0, 1) := by decide +kernel
theorem dX2_readPipe_170 : decode cX2_readPipe 170 = .ok (.getfield 18, 3) := by decide +kernel
theorem dX2_readPipe_173 : decode cX2_readPipe 173 = .ok (.ldc 175, 2) := by decide +kernel
theorem dX2_readPipe_175 : decode cX2_readPipe 175 = .ok (.invokevirtual 177, 3) := by decide +kernel
theorem dX2_readPipe_178 : decode cX2_readPipe 178 = .ok (.istore 7, 2) := by decide +kernel
theorem dX2_readPipe_180 : decode cX2_readPipe 180 = .ok (.aload_n 0, 1) := by decide +kernel
theorem dX2_readPipe_181 : decode cX2_readPipe 181 = .ok (.getfield 18, 3) := by decide +kernel
theorem dX2_readPipe_184 : decode cX2_readPipe 184 = .ok (.ldc 180, 2) := by decide +kernel
theorem dX2_readPipe_186 : decode cX2_readPipe 186 = .ok (.invokevirtual 177, 3) := by decide +kernel
theorem dX2_readPipe_189 : decode cX2_readPipe 189 = .ok (.ifCond .eq 17, 3) := by decide +kernel
theorem dX2_readPipe_192 : decode cX2_readPipe 192 = .ok (.aload_n 0, 1) := by decide +kernel
theorem dX2_readPipe_193 : decode cX2_readPipe 193 = .ok (.getfield 18, 3) := by decide +kernel
theorem dX2_readPipe_196 : decode cX2_readPipe 196 = .ok (.iconst 0, 1) := by decide +kernel
theorem dX2_readPipe_197 : decode cX2_readPipe 197 = .ok (.sipush 30000, 3) := by decide +kernel
theorem dX2_readPipe_200 : decode cX2_readPipe 200 = .ok (.invokevirtual 144, 3) := by decide +kernel
theorem dX2_readPipe_203 : decode cX2_readPipe 203 = .ok (.goto 4, 3) := by decide +kernel
theorem dX2_readPipe_206 : decode cX2_readPipe 206 = .ok (.iconst 0, 1) := by decide +kernel
theorem dX2_readPipe_207 : decode cX2_readPipe 207 = .ok (.istore 8, 2) := by decide +kernel
theorem dX2_readPipe_209 : decode cX2_readPipe 209 = .ok (.aload_n 0, 1) := by decide +kernel
theorem dX2_readPipe_210 : decode cX2_readPipe 210 = .ok (.getfield 12, 3) := by decide +kernel
theorem dX2_readPipe_213 : decode cX2_readPipe 213 = .ok (.new 182, 3) := by decide +kernel
theorem dX2_readPipe_216 : decode cX2_readPipe 216 = .ok (.dup, 1) := by decide +kernel
theorem dX2_readPipe_217 : decode cX2_readPipe 217 = .ok (.iload_n 1, 1) := by decide +kernel
theorem dX2_readPipe_218 : decode cX2_readPipe 218 = .ok (.iload_n 2, 1) := by decide +kernel
theorem dX2_readPipe_219 : decode cX2_readPipe 219 = .ok (.iload_n 3, 1) := by decide +kernel
theorem dX2_readPipe_220 : decode cX2_readPipe 220 = .ok (.aload 4, 2) := by decide +kernel
theorem dX2_readPipe_222 : decode cX2_readPipe 222 = .ok (.iload 5, 2) := by decide +kernel
theorem dX2_readPipe_224 : decode cX2_readPipe 224 = .ok (.iload 8, 2) := by decide +kernel
theorem dX2_readPipe_226 : decode cX2_readPipe 226 = .ok (.iadd, 1) := by decide +kernel
theorem dX2_readPipe_227 : decode cX2_readPipe 227 = .ok (.iload 6, 2) := by decide +kernel
theorem dX2_readPipe_229 : decode cX2_readPipe 229 = .ok (.iload 7, 2) := by decide +kernel
theorem dX2_readPipe_231 : decode cX2_readPipe 231 = .ok (.invokespecial 184, 3) := by decide +kernel
theorem dX2_readPipe_234 : decode cX2_readPipe 234 = .ok (.invokevirtual 187, 3) := by decide +kernel
theorem dX2_readPipe_237 : decode cX2_readPipe 237 = .ok (.return_, 1) := by decide +kernel
set_option maxRecDepth 20000 in
theorem ggX2_readMoves_X9_isAt : GoodIn wsX2_readMoves wsX9_isAt := goodIn_r _ [7, 8, 9, 10, 11, 12, 13, 14, 15, 16, 17, 18, 19, 20, 21, 22, 23, 24, 25, 26, 27, 28, 29, 30, 31, 32, 33, 34, 35, 36, 37, 38, 39, 40, 41, 42, 43, 44, 45, 46, 47, 48, 49, 50, 51, 52, 53, 54, 55, 56, 57, 58, 59, 60, 61, 62, 119, 120, 121, 122, 123, 124, 125, 126] (by decide +kernel) (by decide +kernel)
set_option maxRecDepth 20000 in
theorem gX2_readMoves_X9_isAt : GoodIn wsX2_readMoves (wsV RX2 92 RX9 yX9_isAt wsX9_isAt) := goodIn_app (goodIn_of _ (by decide +kernel)) ggX2_readMoves_X9_isAt
set_option maxRecDepth 20000 in
theorem ggX2_readMoves_X9_fail : GoodIn wsX2_readMoves wsX9_fail := goodIn_r _ [66, 8, 11, 67, 119, 120, 121, 122, 123, 124, 125, 126] (by decide +kernel) (by decide +kernel)
set_option maxRecDepth 20000 in
theorem gX2_readMoves_X9_fail : GoodIn wsX2_readMoves (wsV RX2 39 RX9 yX9_fail wsX9_fail) := goodIn_app (goodIn_of _ (by decide +kernel)) ggX2_readMoves_X9_fail
set_option maxRecDepth 20000 in
theorem ggX2_readMoves_X9_step : GoodIn wsX2_readMoves wsX9_step := goodIn_r _ [71, 10, 12, 13, 11, 72, 9, 73, 119, 120, 121, 122, 123, 124, 125, 126] (by decide +kernel) (by decide +kernel)
set_option maxRecDepth 20000 in
theorem gX2_readMoves_X9_step : GoodIn wsX2_readMoves (wsV RX2 54 RX9 yX9_step wsX9_step) := goodIn_app (goodIn_of _ (by decide +kernel)) ggX2_readMoves_X9_step
set_option maxRecDepth 20000 in
theorem ggX2_readMoves_X9_expectNumber : GoodIn wsX2_readMoves wsX9_expectNumber := goodIn_r _ [77, 9, 72, 8, 78, 64, 65, 6, 66, 11, 67, 79, 69, 70, 71, 10, 12, 13, 73, 119, 120, 121, 122, 123, 124, 125, 126] (by decide +kernel) (by decide +kernel)
set_option maxRecDepth 20000 in
theorem gX2_readMoves_X9_expectNumber : GoodIn wsX2_readMoves (wsV RX2 144 RX9 yX9_expectNumber wsX9_expectNumber) := goodIn_app (goodIn_of _ (by decide +kernel)) ggX2_readMoves_X9_expectNumber
set_option maxRecDepth 20000 in
theorem ggX2_readMoves_X3_add : GoodIn wsX2_readMoves wsX3_add := goodIn_r _ [84, 85, 86, 87, 88, 89, 90, 91, 92, 83, 93, 94, 95, 96, 97, 98, 99, 100, 101, 102, 103, 104, 105, 108, 109, 110, 111, 112, 113, 114, 115, 116, 117, 118] (by decide +kernel) (by decide +kernel)
set_option maxRecDepth 20000 in
theorem gX2_readMoves_X3_add : GoodIn wsX2_readMoves (wsV RX2 197 RX3 yX3_add wsX3_add) := goodIn_app (goodIn_of _ (by decide +kernel)) ggX2_readMoves_X3_add
theorem dX2_readMoves_0 : decode cX2_readMoves 0 = .ok (.iconst 0, 1) := by decide +kernel
theorem dX2_readMoves_1 : decode cX2_readMoves 1 = .ok (.istore_n 2, 1) := by decide +kernel
theorem dX2_readMoves_2 : decode cX2_readMoves 2 = .ok (.iload_n 2, 1) := by decide +kernel
theorem dX2_readMoves_3 : decode cX2_readMoves 3 = .ok (.bipush 8, 2) := by decide +kernel
theorem dX2_readMoves_5 : decode cX2_readMoves 5 = .ok (.if_icmp .gt 105, 3) := by decide +kernel
theorem dX2_readMoves_8 : decode cX2_readMoves 8 = .ok (.aload_n 0, 1) := by decide +kernel
theorem dX2_readMoves_9 : decode cX2_readMoves 9 = .ok (.getfield 18, 3) := by decide +kernel
theorem dX2_readMoves_12 : decode cX2_readMoves 12 = .ok (.ldc 191, 2) := by decide +kernel
theorem dX2_readMoves_14 : decode cX2_readMoves 14 = .ok (.invokevirtual 92, 3) := by decide +kernel
theorem dX2_readMoves_17 : decode cX2_readMoves 17 = .ok (.ifCond .eq 7, 3) := by decide +kernel
theorem dX2_readMoves_20 : decode cX2_readMoves 20 = .ok (.iconst 0, 1) := by decide +kernel
theorem dX2_readMoves_21 : decode cX2_readMoves 21 = .ok (.goto 36, 3) := by decide +kernel
theorem dX2_readMoves_24 : decode cX2_readMoves 24 = .ok (.aload_n 0, 1) := by decide +kernel
theorem dX2_readMoves_25 : decode cX2_readMoves 25 = .ok (.getfield 18, 3) := by decide +kernel
theorem dX2_readMoves_28 : decode cX2_readMoves 28 = .ok (.ldc 193, 2) := by decide +kernel
theorem dX2_readMoves_30 : decode cX2_readMoves 30 = .ok (.invokevirtual 92, 3) := by decide +kernel
theorem dX2_readMoves_33 : decode cX2_readMoves 33 = .ok (.ifCond .eq 7, 3) := by decide +kernel
theorem dX2_readMoves_36 : decode cX2_readMoves 36 = .ok (.iconst 1, 1) := by decide +kernel
theorem dX2_readMoves_37 : decode cX2_readMoves 37 = .ok (.goto 20, 3) := by decide +kernel
theorem dX2_readMoves_40 : decode cX2_readMoves 40 = .ok (.aload_n 0, 1) := by decide +kernel
theorem dX2_readMoves_41 : decode cX2_readMoves 41 = .ok (.getfield 18, 3) := by decide +kernel
theorem dX2_readMoves_44 : decode cX2_readMoves 44 = .ok (.ldc 195, 2) := by decide +kernel
theorem dX2_readMoves_46 : decode cX2_readMoves 46 = .ok (.invokevirtual 92, 3) := by decide +kernel
theorem dX2_readMoves_49 : decode cX2_readMoves 49 = .ok (.ifCond .eq 7, 3) := by decide +kernel
theorem dX2_readMoves_52 : decode cX2_readMoves 52 = .ok (.iconst 2, 1) := by decide +kernel
theorem dX2_readMoves_53 : decode cX2_readMoves 53 = .ok (.goto 4, 3) := by decide +kernel
theorem dX2_readMoves_56 : decode cX2_readMoves 56 = .ok (.iconst (-1), 1) := by decide +kernel
theorem dX2_readMoves_57 : decode cX2_readMoves 57 = .ok (.istore_n 3, 1) := by decide +kernel
theorem dX2_readMoves_58 : decode cX2_readMoves 58 = .ok (.iload_n 3, 1) := by decide +kernel
theorem dX2_readMoves_59 : decode cX2_readMoves 59 = .ok (.iconst (-1), 1) := by decide +kernel
theorem dX2_readMoves_60 : decode cX2_readMoves 60 = .ok (.if_icmp .ne 6, 3) := by decide +kernel
theorem dX2_readMoves_63 : decode cX2_readMoves 63 = .ok (.goto 47, 3) := by decide +kernel
theorem dX2_readMoves_66 : decode cX2_readMoves 66 = .ok (.iload_n 2, 1) := by decide +kernel
theorem dX2_readMoves_67 : decode cX2_readMoves 67 = .ok (.bipush 8, 2) := by decide +kernel
theorem dX2_readMoves_69 : decode cX2_readMoves 69 = .ok (.if_icmp .ne 12, 3) := by decide +kernel
theorem dX2_readMoves_72 : decode cX2_readMoves 72 = .ok (.aload_n 0, 1) := by decide +kernel
theorem dX2_readMoves_73 : decode cX2_readMoves 73 = .ok (.getfield 18, 3) := by decide +kernel
theorem dX2_readMoves_76 : decode cX2_readMoves 76 = .ok (.iconst 3, 1) := by decide +kernel
theorem dX2_readMoves_77 : decode cX2_readMoves 77 = .ok (.invokevirtual 39, 3) := by decide +kernel
theorem dX2_readMoves_80 : decode cX2_readMoves 80 = .ok (.return_, 1) := by decide +kernel
theorem dX2_readMoves_81 : decode cX2_readMoves 81 = .ok (.aload_n 0, 1) := by decide +kernel
theorem dX2_readMoves_82 : decode cX2_readMoves 82 = .ok (.getfield 18, 3) := by decide +kernel
theorem dX2_readMoves_85 : decode cX2_readMoves 85 = .ok (.invokevirtual 54, 3) := by decide +kernel
theorem dX2_readMoves_88 : decode cX2_readMoves 88 = .ok (.aload_n 1, 1) := by decide +kernel
theorem dX2_readMoves_89 : decode cX2_readMoves 89 = .ok (.iload_n 3, 1) := by decide +kernel
theorem dX2_readMoves_90 : decode cX2_readMoves 90 = .ok (.aload_n 0, 1) := by decide +kernel
theorem dX2_readMoves_91 : decode cX2_readMoves 91 = .ok (.getfield 18, 3) := by decide +kernel
theorem dX2_readMoves_94 : decode cX2_readMoves 94 = .ok (.iconst 1, 1) := by decide +kernel
theorem dX2_readMoves_95 : decode cX2_readMoves 95 = .ok (.sipush 900, 3) := by decide +kernel
theorem dX2_readMoves_98 : decode cX2_readMoves 98 = .ok (.invokevirtual 144, 3) := by decide +kernel
theorem dX2_readMoves_101 : decode cX2_readMoves 101 = .ok (.invokevirtual 197, 3) := by decide +kernel
theorem dX2_readMoves_104 : decode cX2_readMoves 104 = .ok (.iinc 2 1, 3) := by decide +kernel
theorem dX2_readMoves_107 : decode cX2_readMoves 107 = .ok (.goto (-105), 3) := by decide +kernel
theorem dX2_readMoves_110 : decode cX2_readMoves 110 = .ok (.aload_n 1, 1) := by decide +kernel
theorem dX2_readMoves_111 : decode cX2_readMoves 111 = .ok (.getfield 200, 3) := by decide +kernel
theorem dX2_readMoves_114 : decode cX2_readMoves 114 = .ok (.ifCond .ne 11, 3) := by decide +kernel
theorem dX2_readMoves_117 : decode cX2_readMoves 117 = .ok (.aload_n 0, 1) := by decide +kernel
theorem dX2_readMoves_118 : decode cX2_readMoves 118 = .ok (.getfield 18, 3) := by decide +kernel
theorem dX2_readMoves_121 : decode cX2_readMoves 121 = .ok (.iconst 1, 1) := by decide +kernel
theorem dX2_readMoves_122 : decode cX2_readMoves 122 = .ok (.invokevirtual 39, 3) := by decide +kernel
theorem dX2_readMoves_125 : decode cX2_readMoves 125 = .ok (.return_, 1) := by decide +kernel
set_option maxRecDepth 20000 in
theorem ggX2_expectHours_X9_expectNumber : GoodIn wsX2_expectHours wsX9_expectNumber := goodIn_r _ [13, 14, 15, 16, 17, 18, 19, 12, 20, 21, 22, 23, 24, 25, 26, 27, 28, 29, 30, 50, 51, 52, 53, 54, 55, 56, 57] (by decide +kernel) (by decide +kernel)
set_option maxRecDepth 20000 in
theorem gX2_expectHours_X9_expectNumber : GoodIn wsX2_expectHours (wsV RX2 144 RX9 yX9_expectNumber wsX9_expectNumber) := goodIn_app (goodIn_of _ (by decide +kernel)) ggX2_expectHours_X9_expectNumber
theorem dX2_expectHours_0 : decode cX2_expectHours 0 = .ok (.aload_n 0, 1) := by decide +kernel
theorem dX2_expectHours_1 : decode cX2_expectHours 1 = .ok (.getfield 18, 3) := by decide +kernel
theorem dX2_expectHours_4 : decode cX2_expectHours 4 = .ok (.iconst 1, 1) := by decide +kernel
theorem dX2_expectHours_5 : decode cX2_expectHours 5 = .ok (.sipush 1000, 3) := by decide +kernel
theorem dX2_expectHours_8 : decode cX2_expectHours 8 = .ok (.sipush 2000, 3) := by decide +kernel
theorem dX2_expectHours_11 : decode cX2_expectHours 11 = .ok (.aload_n 0, 1) := by decide +kernel
theorem dX2_expectHours_12 : decode cX2_expectHours 12 = .ok (.getfield 12, 3) := by decide +kernel
theorem dX2_expectHours_15 : decode cX2_expectHours 15 = .ok (.getfield 205, 3) := by decide +kernel
theorem dX2_expectHours_18 : decode cX2_expectHours 18 = .ok (.getfield 209, 3) := by decide +kernel
theorem dX2_expectHours_21 : decode cX2_expectHours 21 = .ok (.isub, 1) := by decide +kernel
theorem dX2_expectHours_22 : decode cX2_expectHours 22 = .ok (.invokestatic 212, 3) := by decide +kernel
theorem dX2_expectHours_25 : decode cX2_expectHours 25 = .ok (.invokevirtual 144, 3) := by decide +kernel
theorem dX2_expectHours_28 : decode cX2_expectHours 28 = .ok (.ireturn, 1) := by decide +kernel
set_option maxRecDepth 20000 in
theorem ggX2_readRun_X2_expectHours : GoodIn wsX2_readRun wsX2_expectHours := goodIn_r _ [8, 1, 2, 3, 9, 10, 11, 12, 13, 14, 15, 16, 17, 18, 19, 20, 21, 22, 23, 24, 25, 26, 27, 28, 29, 30, 31, 32, 33, 34, 35, 107, 108, 109, 110, 111, 112, 113, 114, 115, 116, 117, 118, 119, 120, 121, 122, 123, 124, 125, 126, 127, 128, 129, 130, 131, 132, 133] (by decide +kernel) (by decide +kernel)
set_option maxRecDepth 20000 in
theorem gX2_readRun_X2_expectHours : GoodIn wsX2_readRun (wsV RX2 217 RX2 yX2_expectHours wsX2_expectHours) := goodIn_app (goodIn_of _ (by decide +kernel)) ggX2_readRun_X2_expectHours
set_option maxRecDepth 20000 in
theorem ggX2_readRun_X9_expect : GoodIn wsX2_readRun wsX9_expect := goodIn_r _ [39, 40, 41, 42, 17, 43, 44, 45, 46, 47, 21, 19, 32, 26, 33, 34, 48, 49, 50, 51, 52, 53, 54, 55, 56, 57, 58, 59, 60, 61, 62, 63, 64, 65, 66, 67, 68, 69, 70, 71, 72, 73, 74, 75, 76, 77, 78, 79, 80, 81, 82, 83, 84, 85, 86, 87, 88, 89, 90, 91, 92, 93, 94, 95, 96, 28, 29, 30, 31, 20, 35, 22, 23, 24, 25, 27, 126, 127, 128, 129, 130, 131, 132, 133] (by decide +kernel) (by decide +kernel)
set_option maxRecDepth 20000 in
theorem gX2_readRun_X9_expect : GoodIn wsX2_readRun (wsV RX2 140 RX9 yX9_expect wsX9_expect) := goodIn_app (goodIn_of _ (by decide +kernel)) ggX2_readRun_X9_expect
set_option maxRecDepth 20000 in
theorem ggX2_readRun_X9_expectNumber : GoodIn wsX2_readRun wsX9_expectNumber := goodIn_r _ [18, 19, 20, 21, 22, 23, 24, 17, 25, 26, 27, 28, 29, 30, 31, 32, 33, 34, 35, 126, 127, 128, 129, 130, 131, 132, 133] (by decide +kernel) (by decide +kernel)
set_option maxRecDepth 20000 in
theorem gX2_readRun_X9_expectNumber : GoodIn wsX2_readRun (wsV RX2 144 RX9 yX9_expectNumber wsX9_expectNumber) := goodIn_app (goodIn_of _ (by decide +kernel)) ggX2_readRun_X9_expectNumber
set_option maxRecDepth 20000 in
theorem ggX2_readRun_X1_add : GoodIn wsX2_readRun wsX1_add := goodIn_r _ [101, 102, 103, 104, 105, 106, 121, 122, 123, 124, 125] (by decide +kernel) (by decide +kernel)
set_option maxRecDepth 20000 in
theorem gX2_readRun_X1_add : GoodIn wsX2_readRun (wsV RX2 222 RX1 yX1_add wsX1_add) := goodIn_app (goodIn_of _ (by decide +kernel)) ggX2_readRun_X1_add
theorem dX2_readRun_0 : decode cX2_readRun 0 = .ok (.aload_n 0, 1) := by decide +kernel
theorem dX2_readRun_1 : decode cX2_readRun 1 = .ok (.invokevirtual 217, 3) := by decide +kernel
theorem dX2_readRun_4 : decode cX2_readRun 4 = .ok (.istore_n 1, 1) := by decide +kernel
theorem dX2_readRun_5 : decode cX2_readRun 5 = .ok (.aload_n 0, 1) := by decide +kernel
theorem dX2_readRun_6 : decode cX2_readRun 6 = .ok (.getfield 18, 3) := by decide +kernel
theorem dX2_readRun_9 : decode cX2_readRun 9 = .ok (.ldc 220, 2) := by decide +kernel
theorem dX2_readRun_11 : decode cX2_readRun 11 = .ok (.invokevirtual 140, 3) := by decide +kernel
theorem dX2_readRun_14 : decode cX2_readRun 14 = .ok (.aload_n 0, 1) := by decide +kernel
theorem dX2_readRun_15 : decode cX2_readRun 15 = .ok (.getfield 18, 3) := by decide +kernel
theorem dX2_readRun_18 : decode cX2_readRun 18 = .ok (.iconst 0, 1) := by decide +kernel
theorem dX2_readRun_19 : decode cX2_readRun 19 = .ok (.sipush 999, 3) := by decide +kernel
theorem dX2_readRun_22 : decode cX2_readRun 22 = .ok (.invokevirtual 144, 3) := by decide +kernel
theorem dX2_readRun_25 : decode cX2_readRun 25 = .ok (.istore_n 2, 1) := by decide +kernel
theorem dX2_readRun_26 : decode cX2_readRun 26 = .ok (.aload_n 0, 1) := by decide +kernel
theorem dX2_readRun_27 : decode cX2_readRun 27 = .ok (.getfield 12, 3) := by decide +kernel
theorem dX2_readRun_30 : decode cX2_readRun 30 = .ok (.getfield 205, 3) := by decide +kernel
theorem dX2_readRun_33 : decode cX2_readRun 33 = .ok (.iload_n 1, 1) := by decide +kernel
theorem dX2_readRun_34 : decode cX2_readRun 34 = .ok (.iload_n 2, 1) := by decide +kernel
theorem dX2_readRun_35 : decode cX2_readRun 35 = .ok (.iload_n 2, 1) := by decide +kernel
