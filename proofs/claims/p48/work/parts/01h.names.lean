theorem dX11_count_90 : decode cX11_count 90 = .ok (.getfield 313, 3) := by decide +kernel
theorem dX11_count_93 : decode cX11_count 93 = .ok (.ireturn, 1) := by decide +kernel
theorem dX11_count_94 : decode cX11_count 94 = .ok (.aload_n 0, 1) := by decide +kernel
theorem dX11_count_95 : decode cX11_count 95 = .ok (.getfield 62, 3) := by decide +kernel
theorem dX11_count_98 : decode cX11_count 98 = .ok (.getfield 274, 3) := by decide +kernel
theorem dX11_count_101 : decode cX11_count 101 = .ok (.getfield 316, 3) := by decide +kernel
theorem dX11_count_104 : decode cX11_count 104 = .ok (.ireturn, 1) := by decide +kernel
theorem dX11_count_105 : decode cX11_count 105 = .ok (.aload_n 0, 1) := by decide +kernel
theorem dX11_count_106 : decode cX11_count 106 = .ok (.getfield 62, 3) := by decide +kernel
theorem dX11_count_109 : decode cX11_count 109 = .ok (.getfield 274, 3) := by decide +kernel
theorem dX11_count_112 : decode cX11_count 112 = .ok (.getfield 319, 3) := by decide +kernel
theorem dX11_count_115 : decode cX11_count 115 = .ok (.ireturn, 1) := by decide +kernel
theorem dX11_count_116 : decode cX11_count 116 = .ok (.aload_n 0, 1) := by decide +kernel
theorem dX11_count_117 : decode cX11_count 117 = .ok (.getfield 62, 3) := by decide +kernel
theorem dX11_count_120 : decode cX11_count 120 = .ok (.getfield 274, 3) := by decide +kernel
theorem dX11_count_123 : decode cX11_count 123 = .ok (.getfield 322, 3) := by decide +kernel
theorem dX11_count_126 : decode cX11_count 126 = .ok (.ireturn, 1) := by decide +kernel
theorem dX11_count_127 : decode cX11_count 127 = .ok (.aload_n 0, 1) := by decide +kernel
theorem dX11_count_128 : decode cX11_count 128 = .ok (.getfield 62, 3) := by decide +kernel
theorem dX11_count_131 : decode cX11_count 131 = .ok (.getfield 99, 3) := by decide +kernel
theorem dX11_count_134 : decode cX11_count 134 = .ok (.ireturn, 1) := by decide +kernel
theorem dX11_count_135 : decode cX11_count 135 = .ok (.aload_n 0, 1) := by decide +kernel
theorem dX11_count_136 : decode cX11_count 136 = .ok (.getfield 10, 3) := by decide +kernel
theorem dX11_count_139 : decode cX11_count 139 = .ok (.getfield 81, 3) := by decide +kernel
theorem dX11_count_142 : decode cX11_count 142 = .ok (.ireturn, 1) := by decide +kernel
theorem dX11_count_143 : decode cX11_count 143 = .ok (.aload_n 0, 1) := by decide +kernel
theorem dX11_count_144 : decode cX11_count 144 = .ok (.invokevirtual 325, 3) := by decide +kernel
theorem dX11_count_147 : decode cX11_count 147 = .ok (.ireturn, 1) := by decide +kernel
theorem dX11_count_148 : decode cX11_count 148 = .ok (.iconst (-1), 1) := by decide +kernel
theorem dX11_count_149 : decode cX11_count 149 = .ok (.ireturn, 1) := by decide +kernel
set_option maxRecDepth 20000 in
theorem ggX11_judge_X11_slotAt : GoodIn wsX11_judge wsX11_slotAt := goodIn_r _ [9, 10, 47, 48, 49, 50, 51, 52, 53, 54, 55, 56, 57] (by decide +kernel) (by decide +kernel)
set_option maxRecDepth 20000 in
theorem gX11_judge_X11_slotAt : GoodIn wsX11_judge (wsV RX11 207 RX11 yX11_slotAt wsX11_slotAt) := goodIn_app (goodIn_of _ (by decide +kernel)) ggX11_judge_X11_slotAt
set_option maxRecDepth 20000 in
theorem ggX11_judge_X1_has : GoodIn wsX11_judge wsX1_has := goodIn_r _ [15, 16, 70, 71, 72, 73, 74] (by decide +kernel) (by decide +kernel)
set_option maxRecDepth 20000 in
theorem gX11_judge_X1_has : GoodIn wsX11_judge (wsV RX11 166 RX1 yX1_has wsX1_has) := goodIn_app (goodIn_of _ (by decide +kernel)) ggX11_judge_X1_has
set_option maxRecDepth 20000 in
theorem ggX11_judge_X7_at : GoodIn wsX11_judge wsX7_at := goodIn_r _ [21, 22, 43, 44, 45, 46] (by decide +kernel) (by decide +kernel)
set_option maxRecDepth 20000 in
theorem gX11_judge_X7_at : GoodIn wsX11_judge (wsV RX11 329 RX7 yX7_at wsX7_at) := goodIn_app (goodIn_of _ (by decide +kernel)) ggX11_judge_X7_at
set_option maxRecDepth 20000 in
theorem ggX11_judge_X1_pressAt : GoodIn wsX11_judge wsX1_pressAt := goodIn_r _ [26, 27, 28, 29, 30, 14, 31, 32, 33, 34, 35, 36, 37, 38, 39, 40, 41, 42, 70, 71, 72, 73, 74] (by decide +kernel) (by decide +kernel)
set_option maxRecDepth 20000 in
theorem gX11_judge_X1_pressAt : GoodIn wsX11_judge (wsV RX11 169 RX1 yX1_pressAt wsX1_pressAt) := goodIn_app (goodIn_of _ (by decide +kernel)) ggX11_judge_X1_pressAt
theorem dX11_judge_0 : decode cX11_judge 0 = .ok (.aload_n 0, 1) := by decide +kernel
theorem dX11_judge_1 : decode cX11_judge 1 = .ok (.iload_n 1, 1) := by decide +kernel
theorem dX11_judge_2 : decode cX11_judge 2 = .ok (.invokevirtual 207, 3) := by decide +kernel
theorem dX11_judge_5 : decode cX11_judge 5 = .ok (.astore_n 2, 1) := by decide +kernel
theorem dX11_judge_6 : decode cX11_judge 6 = .ok (.aload_n 2, 1) := by decide +kernel
theorem dX11_judge_7 : decode cX11_judge 7 = .ok (.ifnonnull 6, 3) := by decide +kernel
theorem dX11_judge_10 : decode cX11_judge 10 = .ok (.bipush (-2), 2) := by decide +kernel
theorem dX11_judge_12 : decode cX11_judge 12 = .ok (.ireturn, 1) := by decide +kernel
theorem dX11_judge_13 : decode cX11_judge 13 = .ok (.aload_n 2, 1) := by decide +kernel
theorem dX11_judge_14 : decode cX11_judge 14 = .ok (.getfield 211, 3) := by decide +kernel
theorem dX11_judge_17 : decode cX11_judge 17 = .ok (.ifCond .ne 6, 3) := by decide +kernel
theorem dX11_judge_20 : decode cX11_judge 20 = .ok (.bipush (-6), 2) := by decide +kernel
theorem dX11_judge_22 : decode cX11_judge 22 = .ok (.ireturn, 1) := by decide +kernel
theorem dX11_judge_23 : decode cX11_judge 23 = .ok (.iconst 0, 1) := by decide +kernel
theorem dX11_judge_24 : decode cX11_judge 24 = .ok (.istore_n 3, 1) := by decide +kernel
theorem dX11_judge_25 : decode cX11_judge 25 = .ok (.iload_n 3, 1) := by decide +kernel
theorem dX11_judge_26 : decode cX11_judge 26 = .ok (.aload_n 2, 1) := by decide +kernel
theorem dX11_judge_27 : decode cX11_judge 27 = .ok (.getfield 328, 3) := by decide +kernel
theorem dX11_judge_30 : decode cX11_judge 30 = .ok (.if_icmp .ge 44, 3) := by decide +kernel
theorem dX11_judge_33 : decode cX11_judge 33 = .ok (.aload_n 0, 1) := by decide +kernel
theorem dX11_judge_34 : decode cX11_judge 34 = .ok (.getfield 62, 3) := by decide +kernel
theorem dX11_judge_37 : decode cX11_judge 37 = .ok (.getfield 163, 3) := by decide +kernel
theorem dX11_judge_40 : decode cX11_judge 40 = .ok (.iload_n 3, 1) := by decide +kernel
theorem dX11_judge_41 : decode cX11_judge 41 = .ok (.invokevirtual 166, 3) := by decide +kernel
theorem dX11_judge_44 : decode cX11_judge 44 = .ok (.ifCond .eq 30, 3) := by decide +kernel
theorem dX11_judge_47 : decode cX11_judge 47 = .ok (.aload_n 2, 1) := by decide +kernel
theorem dX11_judge_48 : decode cX11_judge 48 = .ok (.iload_n 3, 1) := by decide +kernel
theorem dX11_judge_49 : decode cX11_judge 49 = .ok (.invokevirtual 329, 3) := by decide +kernel
theorem dX11_judge_52 : decode cX11_judge 52 = .ok (.aload_n 0, 1) := by decide +kernel
theorem dX11_judge_53 : decode cX11_judge 53 = .ok (.getfield 62, 3) := by decide +kernel
theorem dX11_judge_56 : decode cX11_judge 56 = .ok (.getfield 163, 3) := by decide +kernel
theorem dX11_judge_59 : decode cX11_judge 59 = .ok (.iload_n 3, 1) := by decide +kernel
theorem dX11_judge_60 : decode cX11_judge 60 = .ok (.invokevirtual 169, 3) := by decide +kernel
theorem dX11_judge_63 : decode cX11_judge 63 = .ok (.i2l, 1) := by decide +kernel
theorem dX11_judge_64 : decode cX11_judge 64 = .ok (.lcmp, 1) := by decide +kernel
theorem dX11_judge_65 : decode cX11_judge 65 = .ok (.ifCond .ne 9, 3) := by decide +kernel
theorem dX11_judge_68 : decode cX11_judge 68 = .ok (.iinc 3 1, 3) := by decide +kernel
theorem dX11_judge_71 : decode cX11_judge 71 = .ok (.goto (-46), 3) := by decide +kernel
theorem dX11_judge_74 : decode cX11_judge 74 = .ok (.iload_n 3, 1) := by decide +kernel
theorem dX11_judge_75 : decode cX11_judge 75 = .ok (.ireturn, 1) := by decide +kernel
set_option maxRecDepth 20000 in
theorem ggX11_other_X11_slotAt : GoodIn wsX11_other wsX11_slotAt := goodIn_r _ [8, 9, 121, 122, 123, 124, 125, 126, 127, 128, 129, 130, 131] (by decide +kernel) (by decide +kernel)
set_option maxRecDepth 20000 in
theorem gX11_other_X11_slotAt : GoodIn wsX11_other (wsV RX11 207 RX11 yX11_slotAt wsX11_slotAt) := goodIn_app (goodIn_of _ (by decide +kernel)) ggX11_other_X11_slotAt
set_option maxRecDepth 20000 in
theorem ggX11_other_X11_isStrained : GoodIn wsX11_other wsX11_isStrained := goodIn_r _ [13, 14, 3, 15, 16, 17, 18, 19, 20, 21, 22, 23, 24, 25, 26, 27, 28, 29, 30, 31, 32, 33, 34, 35, 36, 37, 38, 39, 40, 41, 42, 43, 44, 45, 46, 47, 121, 122, 123, 124, 125, 126, 127, 128, 129, 130, 131, 132, 133, 134, 135, 136, 137, 138, 139, 140, 141, 142, 143, 144, 145, 146, 147, 148, 149, 150, 151, 152, 153, 154, 155, 156, 157, 158, 159, 160, 161, 162, 163, 164, 165, 166, 167] (by decide +kernel) (by decide +kernel)
set_option maxRecDepth 20000 in
theorem gX11_other_X11_isStrained : GoodIn wsX11_other (wsV RX11 145 RX11 yX11_isStrained wsX11_isStrained) := goodIn_app (goodIn_of _ (by decide +kernel)) ggX11_other_X11_isStrained
set_option maxRecDepth 20000 in
theorem ggX11_other_X1_takeRow : GoodIn wsX11_other wsX1_takeRow := goodIn_r _ [52, 53, 54, 55, 56, 46, 57, 58, 59, 60, 61, 62, 63, 51, 64, 65, 66, 67, 68, 69, 70, 71, 72, 73, 74, 75, 76, 77, 78, 79, 117, 118, 119, 120, 168, 169, 170, 171, 172] (by decide +kernel) (by decide +kernel)
set_option maxRecDepth 20000 in
theorem gX11_other_X1_takeRow : GoodIn wsX11_other (wsV RX11 332 RX1 yX1_takeRow wsX1_takeRow) := goodIn_app (goodIn_of _ (by decide +kernel)) ggX11_other_X1_takeRow
set_option maxRecDepth 20000 in
theorem ggX11_other_X8_goingHour : GoodIn wsX11_other wsX8_goingHour := goodIn_r _ [83, 84, 85, 86, 87, 27, 88, 89, 90, 91, 92, 93, 46, 94, 37, 95, 96, 97, 51, 98, 78, 99, 100, 101, 102, 35, 103, 104, 56, 57, 105, 106, 107, 108, 30, 33, 109, 110, 111, 112, 79, 113, 114, 115, 116, 77, 168, 169, 170, 171, 172, 151, 152, 153, 154, 155, 156] (by decide +kernel) (by decide +kernel)
set_option maxRecDepth 20000 in
theorem gX11_other_X8_goingHour : GoodIn wsX11_other (wsV RX11 176 RX8 yX8_goingHour wsX8_goingHour) := goodIn_app (goodIn_of _ (by decide +kernel)) ggX11_other_X8_goingHour
theorem dX11_other_0 : decode cX11_other 0 = .ok (.aload_n 0, 1) := by decide +kernel
theorem dX11_other_1 : decode cX11_other 1 = .ok (.iload_n 1, 1) := by decide +kernel
theorem dX11_other_2 : decode cX11_other 2 = .ok (.invokevirtual 207, 3) := by decide +kernel
theorem dX11_other_5 : decode cX11_other 5 = .ok (.astore_n 3, 1) := by decide +kernel
theorem dX11_other_6 : decode cX11_other 6 = .ok (.aload_n 3, 1) := by decide +kernel
theorem dX11_other_7 : decode cX11_other 7 = .ok (.ifnull 11, 3) := by decide +kernel
theorem dX11_other_10 : decode cX11_other 10 = .ok (.aload_n 0, 1) := by decide +kernel
theorem dX11_other_11 : decode cX11_other 11 = .ok (.iload_n 2, 1) := by decide +kernel
theorem dX11_other_12 : decode cX11_other 12 = .ok (.invokevirtual 145, 3) := by decide +kernel
theorem dX11_other_15 : decode cX11_other 15 = .ok (.ifCond .ne 6, 3) := by decide +kernel
theorem dX11_other_18 : decode cX11_other 18 = .ok (.bipush (-2), 2) := by decide +kernel
theorem dX11_other_20 : decode cX11_other 20 = .ok (.ireturn, 1) := by decide +kernel
theorem dX11_other_21 : decode cX11_other 21 = .ok (.aload_n 3, 1) := by decide +kernel
theorem dX11_other_22 : decode cX11_other 22 = .ok (.getfield 211, 3) := by decide +kernel
theorem dX11_other_25 : decode cX11_other 25 = .ok (.ifCond .ne 6, 3) := by decide +kernel
theorem dX11_other_28 : decode cX11_other 28 = .ok (.bipush (-6), 2) := by decide +kernel
theorem dX11_other_30 : decode cX11_other 30 = .ok (.ireturn, 1) := by decide +kernel
theorem dX11_other_31 : decode cX11_other 31 = .ok (.aload_n 0, 1) := by decide +kernel
theorem dX11_other_32 : decode cX11_other 32 = .ok (.getfield 39, 3) := by decide +kernel
theorem dX11_other_35 : decode cX11_other 35 = .ok (.aload_n 3, 1) := by decide +kernel
theorem dX11_other_36 : decode cX11_other 36 = .ok (.invokevirtual 332, 3) := by decide +kernel
theorem dX11_other_39 : decode cX11_other 39 = .ok (.aload_n 0, 1) := by decide +kernel
theorem dX11_other_40 : decode cX11_other 40 = .ok (.getfield 32, 3) := by decide +kernel
theorem dX11_other_43 : decode cX11_other 43 = .ok (.aload_n 0, 1) := by decide +kernel
theorem dX11_other_44 : decode cX11_other 44 = .ok (.getfield 39, 3) := by decide +kernel
theorem dX11_other_47 : decode cX11_other 47 = .ok (.invokevirtual 176, 3) := by decide +kernel
theorem dX11_other_50 : decode cX11_other 50 = .ok (.ireturn, 1) := by decide +kernel
theorem dX11_keep_0 : decode cX11_keep 0 = .ok (.iload_n 1, 1) := by decide +kernel
theorem dX11_keep_1 : decode cX11_keep 1 = .ok (.ifCond .lt 12, 3) := by decide +kernel
theorem dX11_keep_4 : decode cX11_keep 4 = .ok (.iload_n 1, 1) := by decide +kernel
theorem dX11_keep_5 : decode cX11_keep 5 = .ok (.aload_n 0, 1) := by decide +kernel
theorem dX11_keep_6 : decode cX11_keep 6 = .ok (.getfield 18, 3) := by decide +kernel
theorem dX11_keep_9 : decode cX11_keep 9 = .ok (.arraylength, 1) := by decide +kernel
theorem dX11_keep_10 : decode cX11_keep 10 = .ok (.if_icmp .lt 6, 3) := by decide +kernel
theorem dX11_keep_13 : decode cX11_keep 13 = .ok (.bipush (-2), 2) := by decide +kernel
theorem dX11_keep_15 : decode cX11_keep 15 = .ok (.ireturn, 1) := by decide +kernel
theorem dX11_keep_16 : decode cX11_keep 16 = .ok (.aload_n 0, 1) := by decide +kernel
theorem dX11_keep_17 : decode cX11_keep 17 = .ok (.getfield 18, 3) := by decide +kernel
theorem dX11_keep_20 : decode cX11_keep 20 = .ok (.iload_n 1, 1) := by decide +kernel
theorem dX11_keep_21 : decode cX11_keep 21 = .ok (.aload_n 0, 1) := by decide +kernel
theorem dX11_keep_22 : decode cX11_keep 22 = .ok (.getfield 62, 3) := by decide +kernel
theorem dX11_keep_25 : decode cX11_keep 25 = .ok (.aastore, 1) := by decide +kernel
theorem dX11_keep_26 : decode cX11_keep 26 = .ok (.iconst 0, 1) := by decide +kernel
theorem dX11_keep_27 : decode cX11_keep 27 = .ok (.ireturn, 1) := by decide +kernel
theorem dX11_back_0 : decode cX11_back 0 = .ok (.iload_n 1, 1) := by decide +kernel
theorem dX11_back_1 : decode cX11_back 1 = .ok (.ifCond .lt 12, 3) := by decide +kernel
theorem dX11_back_4 : decode cX11_back 4 = .ok (.iload_n 1, 1) := by decide +kernel
theorem dX11_back_5 : decode cX11_back 5 = .ok (.aload_n 0, 1) := by decide +kernel
theorem dX11_back_6 : decode cX11_back 6 = .ok (.getfield 18, 3) := by decide +kernel
theorem dX11_back_9 : decode cX11_back 9 = .ok (.arraylength, 1) := by decide +kernel
theorem dX11_back_10 : decode cX11_back 10 = .ok (.if_icmp .lt 6, 3) := by decide +kernel
theorem dX11_back_13 : decode cX11_back 13 = .ok (.bipush (-2), 2) := by decide +kernel
theorem dX11_back_15 : decode cX11_back 15 = .ok (.ireturn, 1) := by decide +kernel
theorem dX11_back_16 : decode cX11_back 16 = .ok (.aload_n 0, 1) := by decide +kernel
theorem dX11_back_17 : decode cX11_back 17 = .ok (.getfield 18, 3) := by decide +kernel
theorem dX11_back_20 : decode cX11_back 20 = .ok (.iload_n 1, 1) := by decide +kernel
theorem dX11_back_21 : decode cX11_back 21 = .ok (.aaload, 1) := by decide +kernel
theorem dX11_back_22 : decode cX11_back 22 = .ok (.astore_n 2, 1) := by decide +kernel
theorem dX11_back_23 : decode cX11_back 23 = .ok (.aload_n 2, 1) := by decide +kernel
theorem dX11_back_24 : decode cX11_back 24 = .ok (.ifnonnull 6, 3) := by decide +kernel
theorem dX11_back_27 : decode cX11_back 27 = .ok (.bipush (-6), 2) := by decide +kernel
theorem dX11_back_29 : decode cX11_back 29 = .ok (.ireturn, 1) := by decide +kernel
theorem dX11_back_30 : decode cX11_back 30 = .ok (.aload_n 0, 1) := by decide +kernel
theorem dX11_back_31 : decode cX11_back 31 = .ok (.aload_n 2, 1) := by decide +kernel
theorem dX11_back_32 : decode cX11_back 32 = .ok (.putfield 62, 3) := by decide +kernel
theorem dX11_back_35 : decode cX11_back 35 = .ok (.iconst 0, 1) := by decide +kernel
theorem dX11_back_36 : decode cX11_back 36 = .ok (.ireturn, 1) := by decide +kernel
set_option maxRecDepth 20000 in
theorem ggX11_row_X11_slotAt : GoodIn wsX11_row wsX11_slotAt := goodIn_r _ [5, 6, 23, 24, 25, 26, 27, 28, 29, 30, 31, 32, 33] (by decide +kernel) (by decide +kernel)
set_option maxRecDepth 20000 in
theorem gX11_row_X11_slotAt : GoodIn wsX11_row (wsV RX11 207 RX11 yX11_slotAt wsX11_slotAt) := goodIn_app (goodIn_of _ (by decide +kernel)) ggX11_row_X11_slotAt
set_option maxRecDepth 20000 in
theorem ggX11_row_X7_begin : GoodIn wsX11_row wsX7_begin := goodIn_r _ [11, 12, 13, 14, 15, 16, 17, 18, 19, 20, 21, 22, 34, 35, 36, 37] (by decide +kernel) (by decide +kernel)
set_option maxRecDepth 20000 in
theorem gX11_row_X7_begin : GoodIn wsX11_row (wsV RX11 336 RX7 yX7_begin wsX7_begin) := goodIn_app (goodIn_of _ (by decide +kernel)) ggX11_row_X7_begin
theorem dX11_row_0 : decode cX11_row 0 = .ok (.aload_n 0, 1) := by decide +kernel
theorem dX11_row_1 : decode cX11_row 1 = .ok (.iload_n 1, 1) := by decide +kernel
theorem dX11_row_2 : decode cX11_row 2 = .ok (.invokevirtual 207, 3) := by decide +kernel
theorem dX11_row_5 : decode cX11_row 5 = .ok (.astore 4, 2) := by decide +kernel
theorem dX11_row_7 : decode cX11_row 7 = .ok (.aload 4, 2) := by decide +kernel
theorem dX11_row_9 : decode cX11_row 9 = .ok (.ifnull 18, 3) := by decide +kernel
theorem dX11_row_12 : decode cX11_row 12 = .ok (.iload_n 2, 1) := by decide +kernel
theorem dX11_row_13 : decode cX11_row 13 = .ok (.ifCond .lt 14, 3) := by decide +kernel
theorem dX11_row_16 : decode cX11_row 16 = .ok (.iload_n 2, 1) := by decide +kernel
theorem dX11_row_17 : decode cX11_row 17 = .ok (.iconst 3, 1) := by decide +kernel
theorem dX11_row_18 : decode cX11_row 18 = .ok (.if_icmp .gt 9, 3) := by decide +kernel
theorem dX11_row_21 : decode cX11_row 21 = .ok (.iload_n 3, 1) := by decide +kernel
theorem dX11_row_22 : decode cX11_row 22 = .ok (.bipush 60, 2) := by decide +kernel
theorem dX11_row_24 : decode cX11_row 24 = .ok (.if_icmp .le 6, 3) := by decide +kernel
theorem dX11_row_27 : decode cX11_row 27 = .ok (.bipush (-2), 2) := by decide +kernel
theorem dX11_row_29 : decode cX11_row 29 = .ok (.ireturn, 1) := by decide +kernel
theorem dX11_row_30 : decode cX11_row 30 = .ok (.iload_n 3, 1) := by decide +kernel
theorem dX11_row_31 : decode cX11_row 31 = .ok (.ifCond .ge 6, 3) := by decide +kernel
theorem dX11_row_34 : decode cX11_row 34 = .ok (.bipush (-3), 2) := by decide +kernel
theorem dX11_row_36 : decode cX11_row 36 = .ok (.ireturn, 1) := by decide +kernel
theorem dX11_row_37 : decode cX11_row 37 = .ok (.aload 4, 2) := by decide +kernel
theorem dX11_row_39 : decode cX11_row 39 = .ok (.iload_n 2, 1) := by decide +kernel
theorem dX11_row_40 : decode cX11_row 40 = .ok (.iload_n 3, 1) := by decide +kernel
theorem dX11_row_41 : decode cX11_row 41 = .ok (.invokevirtual 336, 3) := by decide +kernel
theorem dX11_row_44 : decode cX11_row 44 = .ok (.iconst 0, 1) := by decide +kernel
theorem dX11_row_45 : decode cX11_row 45 = .ok (.ireturn, 1) := by decide +kernel
set_option maxRecDepth 20000 in
theorem ggX11_write_X11_slotAt : GoodIn wsX11_write wsX11_slotAt := goodIn_r _ [7, 8, 24, 25, 26, 27, 28, 29, 30, 31, 32, 33, 34] (by decide +kernel) (by decide +kernel)
set_option maxRecDepth 20000 in
theorem gX11_write_X11_slotAt : GoodIn wsX11_write (wsV RX11 207 RX11 yX11_slotAt wsX11_slotAt) := goodIn_app (goodIn_of _ (by decide +kernel)) ggX11_write_X11_slotAt
set_option maxRecDepth 20000 in
theorem ggX11_write_X7_set : GoodIn wsX11_write wsX7_set := goodIn_r _ [13, 14, 15, 16, 17, 12, 18, 19, 20, 21, 22, 23] (by decide +kernel) (by decide +kernel)
set_option maxRecDepth 20000 in
theorem gX11_write_X7_set : GoodIn wsX11_write (wsV RX11 340 RX7 yX7_set wsX7_set) := goodIn_app (goodIn_of _ (by decide +kernel)) ggX11_write_X7_set
theorem dX11_write_0 : decode cX11_write 0 = .ok (.aload_n 0, 1) := by decide +kernel
theorem dX11_write_1 : decode cX11_write 1 = .ok (.iload_n 1, 1) := by decide +kernel
theorem dX11_write_2 : decode cX11_write 2 = .ok (.invokevirtual 207, 3) := by decide +kernel
theorem dX11_write_5 : decode cX11_write 5 = .ok (.astore 5, 2) := by decide +kernel
theorem dX11_write_7 : decode cX11_write 7 = .ok (.aload 5, 2) := by decide +kernel
theorem dX11_write_9 : decode cX11_write 9 = .ok (.ifnonnull 6, 3) := by decide +kernel
theorem dX11_write_12 : decode cX11_write 12 = .ok (.bipush (-2), 2) := by decide +kernel
theorem dX11_write_14 : decode cX11_write 14 = .ok (.ireturn, 1) := by decide +kernel
theorem dX11_write_15 : decode cX11_write 15 = .ok (.aload 5, 2) := by decide +kernel
theorem dX11_write_17 : decode cX11_write 17 = .ok (.getfield 211, 3) := by decide +kernel
theorem dX11_write_20 : decode cX11_write 20 = .ok (.ifCond .ne 6, 3) := by decide +kernel
theorem dX11_write_23 : decode cX11_write 23 = .ok (.bipush (-6), 2) := by decide +kernel
theorem dX11_write_25 : decode cX11_write 25 = .ok (.ireturn, 1) := by decide +kernel
theorem dX11_write_26 : decode cX11_write 26 = .ok (.iload_n 2, 1) := by decide +kernel
theorem dX11_write_27 : decode cX11_write 27 = .ok (.ifCond .lt 12, 3) := by decide +kernel
theorem dX11_write_30 : decode cX11_write 30 = .ok (.iload_n 2, 1) := by decide +kernel
theorem dX11_write_31 : decode cX11_write 31 = .ok (.aload 5, 2) := by decide +kernel
theorem dX11_write_33 : decode cX11_write 33 = .ok (.getfield 328, 3) := by decide +kernel
theorem dX11_write_36 : decode cX11_write 36 = .ok (.if_icmp .lt 6, 3) := by decide +kernel
theorem dX11_write_39 : decode cX11_write 39 = .ok (.bipush (-7), 2) := by decide +kernel
theorem dX11_write_41 : decode cX11_write 41 = .ok (.ireturn, 1) := by decide +kernel
theorem dX11_write_42 : decode cX11_write 42 = .ok (.aload 5, 2) := by decide +kernel
theorem dX11_write_44 : decode cX11_write 44 = .ok (.iload_n 2, 1) := by decide +kernel
theorem dX11_write_45 : decode cX11_write 45 = .ok (.lload_n 3, 1) := by decide +kernel
theorem dX11_write_46 : decode cX11_write 46 = .ok (.invokevirtual 340, 3) := by decide +kernel
theorem dX11_write_49 : decode cX11_write 49 = .ok (.iconst 0, 1) := by decide +kernel
theorem dX11_write_50 : decode cX11_write 50 = .ok (.ireturn, 1) := by decide +kernel
set_option maxRecDepth 20000 in
theorem ggX11_paste_X11_slotAt : GoodIn wsX11_paste wsX11_slotAt := goodIn_r _ [12, 13, 24, 25, 26, 27, 28, 29, 30, 31, 32, 33, 34] (by decide +kernel) (by decide +kernel)
set_option maxRecDepth 20000 in
theorem gX11_paste_X11_slotAt : GoodIn wsX11_paste (wsV RX11 207 RX11 yX11_slotAt wsX11_slotAt) := goodIn_app (goodIn_of _ (by decide +kernel)) ggX11_paste_X11_slotAt
set_option maxRecDepth 20000 in
theorem ggX11_paste_X7_hasSpan : GoodIn wsX11_paste wsX7_hasSpan := goodIn_r _ [18, 19, 20, 21, 22, 23] (by decide +kernel) (by decide +kernel)
set_option maxRecDepth 20000 in
theorem gX11_paste_X7_hasSpan : GoodIn wsX11_paste (wsV RX11 347 RX7 yX7_hasSpan wsX7_hasSpan) := goodIn_app (goodIn_of _ (by decide +kernel)) ggX11_paste_X7_hasSpan
theorem dX11_paste_0 : decode cX11_paste 0 = .ok (.aload_n 0, 1) := by decide +kernel
theorem dX11_paste_1 : decode cX11_paste 1 = .ok (.iload_n 1, 1) := by decide +kernel
theorem dX11_paste_2 : decode cX11_paste 2 = .ok (.invokevirtual 207, 3) := by decide +kernel
theorem dX11_paste_5 : decode cX11_paste 5 = .ok (.astore 6, 2) := by decide +kernel
theorem dX11_paste_7 : decode cX11_paste 7 = .ok (.aload_n 0, 1) := by decide +kernel
theorem dX11_paste_8 : decode cX11_paste 8 = .ok (.iload_n 3, 1) := by decide +kernel
theorem dX11_paste_9 : decode cX11_paste 9 = .ok (.invokevirtual 207, 3) := by decide +kernel
theorem dX11_paste_12 : decode cX11_paste 12 = .ok (.astore 7, 2) := by decide +kernel
theorem dX11_paste_14 : decode cX11_paste 14 = .ok (.aload 6, 2) := by decide +kernel
theorem dX11_paste_16 : decode cX11_paste 16 = .ok (.ifnull 8, 3) := by decide +kernel
theorem dX11_paste_19 : decode cX11_paste 19 = .ok (.aload 7, 2) := by decide +kernel
theorem dX11_paste_21 : decode cX11_paste 21 = .ok (.ifnonnull 6, 3) := by decide +kernel
theorem dX11_paste_24 : decode cX11_paste 24 = .ok (.bipush (-2), 2) := by decide +kernel
theorem dX11_paste_26 : decode cX11_paste 26 = .ok (.ireturn, 1) := by decide +kernel
theorem dX11_paste_27 : decode cX11_paste 27 = .ok (.aload 6, 2) := by decide +kernel
theorem dX11_paste_29 : decode cX11_paste 29 = .ok (.getfield 211, 3) := by decide +kernel
theorem dX11_paste_32 : decode cX11_paste 32 = .ok (.ifCond .eq 11, 3) := by decide +kernel
theorem dX11_paste_35 : decode cX11_paste 35 = .ok (.aload 7, 2) := by decide +kernel
theorem dX11_paste_37 : decode cX11_paste 37 = .ok (.getfield 211, 3) := by decide +kernel
theorem dX11_paste_40 : decode cX11_paste 40 = .ok (.ifCond .ne 6, 3) := by decide +kernel
theorem dX11_paste_43 : decode cX11_paste 43 = .ok (.bipush (-6), 2) := by decide +kernel
theorem dX11_paste_45 : decode cX11_paste 45 = .ok (.ireturn, 1) := by decide +kernel
theorem dX11_paste_46 : decode cX11_paste 46 = .ok (.aload 6, 2) := by decide +kernel
theorem dX11_paste_48 : decode cX11_paste 48 = .ok (.getfield 344, 3) := by decide +kernel
theorem dX11_paste_51 : decode cX11_paste 51 = .ok (.aload 7, 2) := by decide +kernel
theorem dX11_paste_53 : decode cX11_paste 53 = .ok (.getfield 344, 3) := by decide +kernel
theorem dX11_paste_56 : decode cX11_paste 56 = .ok (.if_icmp .eq 6, 3) := by decide +kernel
theorem dX11_paste_59 : decode cX11_paste 59 = .ok (.bipush (-8), 2) := by decide +kernel
theorem dX11_paste_61 : decode cX11_paste 61 = .ok (.ireturn, 1) := by decide +kernel
theorem dX11_paste_62 : decode cX11_paste 62 = .ok (.aload 6, 2) := by decide +kernel
theorem dX11_paste_64 : decode cX11_paste 64 = .ok (.iload_n 2, 1) := by decide +kernel
theorem dX11_paste_65 : decode cX11_paste 65 = .ok (.iload 5, 2) := by decide +kernel
theorem dX11_paste_67 : decode cX11_paste 67 = .ok (.invokevirtual 347, 3) := by decide +kernel
theorem dX11_paste_70 : decode cX11_paste 70 = .ok (.ifCond .eq 15, 3) := by decide +kernel
theorem dX11_paste_73 : decode cX11_paste 73 = .ok (.aload 7, 2) := by decide +kernel
theorem dX11_paste_75 : decode cX11_paste 75 = .ok (.iload 4, 2) := by decide +kernel
theorem dX11_paste_77 : decode cX11_paste 77 = .ok (.iload 5, 2) := by decide +kernel
theorem dX11_paste_79 : decode cX11_paste 79 = .ok (.invokevirtual 347, 3) := by decide +kernel
theorem dX11_paste_82 : decode cX11_paste 82 = .ok (.ifCond .ne 6, 3) := by decide +kernel
theorem dX11_paste_85 : decode cX11_paste 85 = .ok (.bipush (-7), 2) := by decide +kernel
theorem dX11_paste_87 : decode cX11_paste 87 = .ok (.ireturn, 1) := by decide +kernel
theorem dX11_paste_88 : decode cX11_paste 88 = .ok (.aload 6, 2) := by decide +kernel
theorem dX11_paste_90 : decode cX11_paste 90 = .ok (.getfield 350, 3) := by decide +kernel
theorem dX11_paste_93 : decode cX11_paste 93 = .ok (.iload_n 2, 1) := by decide +kernel
theorem dX11_paste_94 : decode cX11_paste 94 = .ok (.aload 7, 2) := by decide +kernel
theorem dX11_paste_96 : decode cX11_paste 96 = .ok (.getfield 350, 3) := by decide +kernel
theorem dX11_paste_99 : decode cX11_paste 99 = .ok (.iload 4, 2) := by decide +kernel
theorem dX11_paste_101 : decode cX11_paste 101 = .ok (.iload 5, 2) := by decide +kernel
theorem dX11_paste_103 : decode cX11_paste 103 = .ok (.invokestatic 354, 3) := by decide +kernel
theorem dX11_paste_106 : decode cX11_paste 106 = .ok (.iconst 0, 1) := by decide +kernel
theorem dX11_paste_107 : decode cX11_paste 107 = .ok (.ireturn, 1) := by decide +kernel
theorem dX11_isPress_0 : decode cX11_isPress 0 = .ok (.iload_n 0, 1) := by decide +kernel
theorem dX11_isPress_1 : decode cX11_isPress 1 = .ok (.ifCond .lt 14, 3) := by decide +kernel
theorem dX11_isPress_4 : decode cX11_isPress 4 = .ok (.iload_n 0, 1) := by decide +kernel
theorem dX11_isPress_5 : decode cX11_isPress 5 = .ok (.sipush 999, 3) := by decide +kernel
theorem dX11_isPress_8 : decode cX11_isPress 8 = .ok (.if_icmp .gt 7, 3) := by decide +kernel
theorem dX11_isPress_11 : decode cX11_isPress 11 = .ok (.iconst 1, 1) := by decide +kernel
theorem dX11_isPress_12 : decode cX11_isPress 12 = .ok (.goto 4, 3) := by decide +kernel
theorem dX11_isPress_15 : decode cX11_isPress 15 = .ok (.iconst 0, 1) := by decide +kernel
theorem dX11_isPress_16 : decode cX11_isPress 16 = .ok (.ireturn, 1) := by decide +kernel
set_option maxRecDepth 20000 in
theorem ggX11_isStrained_X10_pipeAt : GoodIn wsX11_isStrained wsX10_pipeAt := goodIn_r _ [9, 10, 11, 54, 55, 56, 57, 58, 59, 60, 61, 62, 63, 64, 65] (by decide +kernel) (by decide +kernel)
set_option maxRecDepth 20000 in
theorem gX11_isStrained_X10_pipeAt : GoodIn wsX11_isStrained (wsV RX11 110 RX10 yX10_pipeAt wsX10_pipeAt) := goodIn_app (goodIn_of _ (by decide +kernel)) ggX11_isStrained_X10_pipeAt
set_option maxRecDepth 20000 in
theorem ggX11_isStrained_X8_take : GoodIn wsX11_isStrained wsX8_take := goodIn_r _ [16, 17, 18, 19, 20, 21, 22, 23, 24, 25, 26, 27, 28, 29, 30, 31, 32, 33, 34, 35, 47, 48, 49, 50, 51, 52, 53, 66, 67, 68, 69, 70, 71, 72, 73, 74, 75, 76, 77, 78, 79, 80, 81, 82] (by decide +kernel) (by decide +kernel)
set_option maxRecDepth 20000 in
theorem gX11_isStrained_X8_take : GoodIn wsX11_isStrained (wsV RX11 199 RX8 yX8_take wsX8_take) := goodIn_app (goodIn_of _ (by decide +kernel)) ggX11_isStrained_X8_take
theorem dX11_isStrained_0 : decode cX11_isStrained 0 = .ok (.aload_n 0, 1) := by decide +kernel
theorem dX11_isStrained_1 : decode cX11_isStrained 1 = .ok (.getfield 62, 3) := by decide +kernel
theorem dX11_isStrained_4 : decode cX11_isStrained 4 = .ok (.iload_n 1, 1) := by decide +kernel
theorem dX11_isStrained_5 : decode cX11_isStrained 5 = .ok (.invokevirtual 110, 3) := by decide +kernel
theorem dX11_isStrained_8 : decode cX11_isStrained 8 = .ok (.astore_n 2, 1) := by decide +kernel
theorem dX11_isStrained_9 : decode cX11_isStrained 9 = .ok (.aload_n 2, 1) := by decide +kernel
theorem dX11_isStrained_10 : decode cX11_isStrained 10 = .ok (.ifnonnull 5, 3) := by decide +kernel
theorem dX11_isStrained_13 : decode cX11_isStrained 13 = .ok (.iconst 0, 1) := by decide +kernel
theorem dX11_isStrained_14 : decode cX11_isStrained 14 = .ok (.ireturn, 1) := by decide +kernel
theorem dX11_isStrained_15 : decode cX11_isStrained 15 = .ok (.aload_n 0, 1) := by decide +kernel
theorem dX11_isStrained_16 : decode cX11_isStrained 16 = .ok (.getfield 32, 3) := by decide +kernel
theorem dX11_isStrained_19 : decode cX11_isStrained 19 = .ok (.aload_n 2, 1) := by decide +kernel
theorem dX11_isStrained_20 : decode cX11_isStrained 20 = .ok (.aload_n 2, 1) := by decide +kernel
theorem dX11_isStrained_21 : decode cX11_isStrained 21 = .ok (.getfield 131, 3) := by decide +kernel
theorem dX11_isStrained_24 : decode cX11_isStrained 24 = .ok (.aload_n 2, 1) := by decide +kernel
theorem dX11_isStrained_25 : decode cX11_isStrained 25 = .ok (.getfield 203, 3) := by decide +kernel
theorem dX11_isStrained_28 : decode cX11_isStrained 28 = .ok (.invokevirtual 199, 3) := by decide +kernel
theorem dX11_isStrained_31 : decode cX11_isStrained 31 = .ok (.iconst 1, 1) := by decide +kernel
theorem dX11_isStrained_32 : decode cX11_isStrained 32 = .ok (.ireturn, 1) := by decide +kernel
set_option maxRecDepth 20000 in
theorem ggX11_isClouded_X10_pipeAt : GoodIn wsX11_isClouded wsX10_pipeAt := goodIn_r _ [8, 9, 10, 68, 69, 70, 71, 72, 73, 74, 75, 76, 77, 78, 79] (by decide +kernel) (by decide +kernel)
set_option maxRecDepth 20000 in
theorem gX11_isClouded_X10_pipeAt : GoodIn wsX11_isClouded (wsV RX11 110 RX10 yX10_pipeAt wsX10_pipeAt) := goodIn_app (goodIn_of _ (by decide +kernel)) ggX11_isClouded_X10_pipeAt
set_option maxRecDepth 20000 in
theorem ggX11_isClouded_X1_has : GoodIn wsX11_isClouded wsX1_has := goodIn_r _ [15, 16, 80, 81, 82, 83, 84] (by decide +kernel) (by decide +kernel)
set_option maxRecDepth 20000 in
theorem gX11_isClouded_X1_has : GoodIn wsX11_isClouded (wsV RX11 166 RX1 yX1_has wsX1_has) := goodIn_app (goodIn_of _ (by decide +kernel)) ggX11_isClouded_X1_has
set_option maxRecDepth 20000 in
theorem ggX11_isClouded_X1_pressAt : GoodIn wsX11_isClouded wsX1_pressAt := goodIn_r _ [20, 21, 22, 23, 24, 14, 25, 26, 27, 28, 29, 30, 31, 32, 33, 34, 35, 36, 80, 81, 82, 83, 84] (by decide +kernel) (by decide +kernel)
set_option maxRecDepth 20000 in
theorem gX11_isClouded_X1_pressAt : GoodIn wsX11_isClouded (wsV RX11 169 RX1 yX1_pressAt wsX1_pressAt) := goodIn_app (goodIn_of _ (by decide +kernel)) ggX11_isClouded_X1_pressAt
set_option maxRecDepth 20000 in
theorem ggX11_isClouded_X0_take : GoodIn wsX11_isClouded wsX0_take := goodIn_r _ [41, 42, 43, 44, 45, 46, 47, 48, 49, 50, 51, 52, 53, 54, 55, 40, 56, 85, 86, 87, 88, 89, 90, 91, 92, 93, 94, 95, 96, 97, 98, 99, 68, 69, 70, 71, 72, 73, 74, 75, 76, 77, 78, 79] (by decide +kernel) (by decide +kernel)
set_option maxRecDepth 20000 in
theorem gX11_isClouded_X0_take : GoodIn wsX11_isClouded (wsV RX11 360 RX0 yX0_take wsX0_take) := goodIn_app (goodIn_of _ (by decide +kernel)) ggX11_isClouded_X0_take
theorem dX11_isClouded_0 : decode cX11_isClouded 0 = .ok (.aload_n 0, 1) := by decide +kernel
theorem dX11_isClouded_1 : decode cX11_isClouded 1 = .ok (.getfield 62, 3) := by decide +kernel
theorem dX11_isClouded_4 : decode cX11_isClouded 4 = .ok (.iload_n 1, 1) := by decide +kernel
theorem dX11_isClouded_5 : decode cX11_isClouded 5 = .ok (.invokevirtual 110, 3) := by decide +kernel
theorem dX11_isClouded_8 : decode cX11_isClouded 8 = .ok (.astore_n 3, 1) := by decide +kernel
theorem dX11_isClouded_9 : decode cX11_isClouded 9 = .ok (.aload_n 3, 1) := by decide +kernel
theorem dX11_isClouded_10 : decode cX11_isClouded 10 = .ok (.ifnull 17, 3) := by decide +kernel
theorem dX11_isClouded_13 : decode cX11_isClouded 13 = .ok (.aload_n 0, 1) := by decide +kernel
theorem dX11_isClouded_14 : decode cX11_isClouded 14 = .ok (.getfield 62, 3) := by decide +kernel
theorem dX11_isClouded_17 : decode cX11_isClouded 17 = .ok (.getfield 163, 3) := by decide +kernel
theorem dX11_isClouded_20 : decode cX11_isClouded 20 = .ok (.iload_n 2, 1) := by decide +kernel
theorem dX11_isClouded_21 : decode cX11_isClouded 21 = .ok (.invokevirtual 166, 3) := by decide +kernel
theorem dX11_isClouded_24 : decode cX11_isClouded 24 = .ok (.ifCond .ne 5, 3) := by decide +kernel
theorem dX11_isClouded_27 : decode cX11_isClouded 27 = .ok (.iconst 0, 1) := by decide +kernel
theorem dX11_isClouded_28 : decode cX11_isClouded 28 = .ok (.ireturn, 1) := by decide +kernel
theorem dX11_isClouded_29 : decode cX11_isClouded 29 = .ok (.aload_n 0, 1) := by decide +kernel
theorem dX11_isClouded_30 : decode cX11_isClouded 30 = .ok (.getfield 53, 3) := by decide +kernel
theorem dX11_isClouded_33 : decode cX11_isClouded 33 = .ok (.aload_n 0, 1) := by decide +kernel
theorem dX11_isClouded_34 : decode cX11_isClouded 34 = .ok (.getfield 62, 3) := by decide +kernel
theorem dX11_isClouded_37 : decode cX11_isClouded 37 = .ok (.aload_n 3, 1) := by decide +kernel
theorem dX11_isClouded_38 : decode cX11_isClouded 38 = .ok (.aload_n 0, 1) := by decide +kernel
theorem dX11_isClouded_39 : decode cX11_isClouded 39 = .ok (.getfield 62, 3) := by decide +kernel
theorem dX11_isClouded_42 : decode cX11_isClouded 42 = .ok (.getfield 163, 3) := by decide +kernel
theorem dX11_isClouded_45 : decode cX11_isClouded 45 = .ok (.iload_n 2, 1) := by decide +kernel
theorem dX11_isClouded_46 : decode cX11_isClouded 46 = .ok (.invokevirtual 169, 3) := by decide +kernel
theorem dX11_isClouded_49 : decode cX11_isClouded 49 = .ok (.invokevirtual 360, 3) := by decide +kernel
theorem dX11_isClouded_52 : decode cX11_isClouded 52 = .ok (.iconst 1, 1) := by decide +kernel
theorem dX11_isClouded_53 : decode cX11_isClouded 53 = .ok (.ireturn, 1) := by decide +kernel
theorem dX11_slotAt_0 : decode cX11_slotAt 0 = .ok (.iload_n 1, 1) := by decide +kernel
theorem dX11_slotAt_1 : decode cX11_slotAt 1 = .ok (.ifCond .lt 12, 3) := by decide +kernel
theorem dX11_slotAt_4 : decode cX11_slotAt 4 = .ok (.iload_n 1, 1) := by decide +kernel
theorem dX11_slotAt_5 : decode cX11_slotAt 5 = .ok (.aload_n 0, 1) := by decide +kernel
theorem dX11_slotAt_6 : decode cX11_slotAt 6 = .ok (.getfield 25, 3) := by decide +kernel
theorem dX11_slotAt_9 : decode cX11_slotAt 9 = .ok (.arraylength, 1) := by decide +kernel
theorem dX11_slotAt_10 : decode cX11_slotAt 10 = .ok (.if_icmp .lt 7, 3) := by decide +kernel
theorem dX11_slotAt_13 : decode cX11_slotAt 13 = .ok (.aconst_null, 1) := by decide +kernel
theorem dX11_slotAt_14 : decode cX11_slotAt 14 = .ok (.goto 9, 3) := by decide +kernel
theorem dX11_slotAt_17 : decode cX11_slotAt 17 = .ok (.aload_n 0, 1) := by decide +kernel
theorem dX11_slotAt_18 : decode cX11_slotAt 18 = .ok (.getfield 25, 3) := by decide +kernel
theorem dX11_slotAt_21 : decode cX11_slotAt 21 = .ok (.iload_n 1, 1) := by decide +kernel
theorem dX11_slotAt_22 : decode cX11_slotAt 22 = .ok (.aaload, 1) := by decide +kernel
theorem dX11_slotAt_23 : decode cX11_slotAt 23 = .ok (.areturn, 1) := by decide +kernel
theorem dX11_slotsWithRow_0 : decode cX11_slotsWithRow 0 = .ok (.iconst 0, 1) := by decide +kernel
theorem dX11_slotsWithRow_1 : decode cX11_slotsWithRow 1 = .ok (.istore_n 1, 1) := by decide +kernel
theorem dX11_slotsWithRow_2 : decode cX11_slotsWithRow 2 = .ok (.aload_n 0, 1) := by decide +kernel
theorem dX11_slotsWithRow_3 : decode cX11_slotsWithRow 3 = .ok (.getfield 25, 3) := by decide +kernel
theorem dX11_slotsWithRow_6 : decode cX11_slotsWithRow 6 = .ok (.astore_n 2, 1) := by decide +kernel
theorem dX11_slotsWithRow_7 : decode cX11_slotsWithRow 7 = .ok (.aload_n 2, 1) := by decide +kernel
theorem dX11_slotsWithRow_8 : decode cX11_slotsWithRow 8 = .ok (.arraylength, 1) := by decide +kernel
theorem dX11_slotsWithRow_9 : decode cX11_slotsWithRow 9 = .ok (.istore_n 3, 1) := by decide +kernel
theorem dX11_slotsWithRow_10 : decode cX11_slotsWithRow 10 = .ok (.iconst 0, 1) := by decide +kernel
theorem dX11_slotsWithRow_11 : decode cX11_slotsWithRow 11 = .ok (.istore 4, 2) := by decide +kernel
theorem dX11_slotsWithRow_13 : decode cX11_slotsWithRow 13 = .ok (.iload 4, 2) := by decide +kernel
theorem dX11_slotsWithRow_15 : decode cX11_slotsWithRow 15 = .ok (.iload_n 3, 1) := by decide +kernel
theorem dX11_slotsWithRow_16 : decode cX11_slotsWithRow 16 = .ok (.if_icmp .ge 31, 3) := by decide +kernel
theorem dX11_slotsWithRow_19 : decode cX11_slotsWithRow 19 = .ok (.aload_n 2, 1) := by decide +kernel
theorem dX11_slotsWithRow_20 : decode cX11_slotsWithRow 20 = .ok (.iload 4, 2) := by decide +kernel
theorem dX11_slotsWithRow_22 : decode cX11_slotsWithRow 22 = .ok (.aaload, 1) := by decide +kernel
theorem dX11_slotsWithRow_23 : decode cX11_slotsWithRow 23 = .ok (.astore 5, 2) := by decide +kernel
theorem dX11_slotsWithRow_25 : decode cX11_slotsWithRow 25 = .ok (.aload 5, 2) := by decide +kernel
theorem dX11_slotsWithRow_27 : decode cX11_slotsWithRow 27 = .ok (.ifnull 14, 3) := by decide +kernel
theorem dX11_slotsWithRow_30 : decode cX11_slotsWithRow 30 = .ok (.aload 5, 2) := by decide +kernel
theorem dX11_slotsWithRow_32 : decode cX11_slotsWithRow 32 = .ok (.getfield 211, 3) := by decide +kernel
theorem dX11_slotsWithRow_35 : decode cX11_slotsWithRow 35 = .ok (.ifCond .eq 6, 3) := by decide +kernel
theorem dX11_slotsWithRow_38 : decode cX11_slotsWithRow 38 = .ok (.iinc 1 1, 3) := by decide +kernel
theorem dX11_slotsWithRow_41 : decode cX11_slotsWithRow 41 = .ok (.iinc 4 1, 3) := by decide +kernel
theorem dX11_slotsWithRow_44 : decode cX11_slotsWithRow 44 = .ok (.goto (-31), 3) := by decide +kernel
theorem dX11_slotsWithRow_47 : decode cX11_slotsWithRow 47 = .ok (.iload_n 1, 1) := by decide +kernel
theorem dX11_slotsWithRow_48 : decode cX11_slotsWithRow 48 = .ok (.ireturn, 1) := by decide +kernel
set_option maxRecDepth 20000 in
theorem ggX11_firstWithout_X11_isStrained : GoodIn wsX11_firstWithout wsX11_isStrained := goodIn_r _ [10, 1, 3, 11, 12, 13, 14, 15, 16, 17, 18, 19, 20, 21, 22, 23, 24, 25, 26, 27, 28, 29, 30, 31, 32, 33, 34, 35, 36, 37, 38, 39, 40, 41, 42, 43, 100, 101, 102, 103, 104, 105, 106, 107, 108, 109, 110, 123, 124, 125, 126, 127, 128, 129, 111, 112, 113, 114, 115, 116, 117, 118, 119, 120, 121, 122, 130, 131, 132, 133, 134, 135, 136, 137, 138, 139, 140, 141, 142, 143, 144, 145, 146] (by decide +kernel) (by decide +kernel)
set_option maxRecDepth 20000 in
theorem gX11_firstWithout_X11_isStrained : GoodIn wsX11_firstWithout (wsV RX11 145 RX11 yX11_isStrained wsX11_isStrained) := goodIn_app (goodIn_of _ (by decide +kernel)) ggX11_firstWithout_X11_isStrained
set_option maxRecDepth 20000 in
theorem ggX11_firstWithout_X8_goingHour : GoodIn wsX11_firstWithout wsX8_goingHour := goodIn_r _ [47, 48, 49, 50, 51, 23, 52, 53, 54, 55, 56, 57, 42, 58, 33, 59, 60, 61, 62, 63, 64, 65, 66, 67, 68, 31, 69, 70, 71, 72, 73, 74, 75, 76, 26, 29, 77, 78, 79, 80, 81, 82, 83, 84, 85, 86, 147, 148, 149, 150, 151, 130, 131, 132, 133, 134, 135] (by decide +kernel) (by decide +kernel)
set_option maxRecDepth 20000 in
theorem gX11_firstWithout_X8_goingHour : GoodIn wsX11_firstWithout (wsV RX11 176 RX8 yX8_goingHour wsX8_goingHour) := goodIn_app (goodIn_of _ (by decide +kernel)) ggX11_firstWithout_X8_goingHour
set_option maxRecDepth 20000 in
theorem ggX11_firstWithout_X10_holdsOf : GoodIn wsX11_firstWithout wsX10_holdsOf := goodIn_r _ [90, 91, 111, 112, 113, 114, 115, 116, 117, 118, 119, 120, 121, 122] (by decide +kernel) (by decide +kernel)
set_option maxRecDepth 20000 in
theorem gX11_firstWithout_X10_holdsOf : GoodIn wsX11_firstWithout (wsV RX11 183 RX10 yX10_holdsOf wsX10_holdsOf) := goodIn_app (goodIn_of _ (by decide +kernel)) ggX11_firstWithout_X10_holdsOf
set_option maxRecDepth 20000 in
theorem ggX11_firstWithout_X1_firstAbove : GoodIn wsX11_firstWithout wsX1_firstAbove := goodIn_r _ [95, 96, 97, 60, 61, 62, 63, 64, 98, 78, 79, 80, 81, 99, 83, 84, 85, 86, 147, 148, 149, 150, 151] (by decide +kernel) (by decide +kernel)
set_option maxRecDepth 20000 in
theorem gX11_firstWithout_X1_firstAbove : GoodIn wsX11_firstWithout (wsV RX11 186 RX1 yX1_firstAbove wsX1_firstAbove) := goodIn_app (goodIn_of _ (by decide +kernel)) ggX11_firstWithout_X1_firstAbove
theorem dX11_firstWithout_0 : decode cX11_firstWithout 0 = .ok (.iconst (-1), 1) := by decide +kernel
theorem dX11_firstWithout_1 : decode cX11_firstWithout 1 = .ok (.istore_n 3, 1) := by decide +kernel
theorem dX11_firstWithout_2 : decode cX11_firstWithout 2 = .ok (.iconst (-1), 1) := by decide +kernel
theorem dX11_firstWithout_3 : decode cX11_firstWithout 3 = .ok (.istore 4, 2) := by decide +kernel
theorem dX11_firstWithout_5 : decode cX11_firstWithout 5 = .ok (.iconst 0, 1) := by decide +kernel
theorem dX11_firstWithout_6 : decode cX11_firstWithout 6 = .ok (.istore 5, 2) := by decide +kernel
theorem dX11_firstWithout_8 : decode cX11_firstWithout 8 = .ok (.iload 5, 2) := by decide +kernel
theorem dX11_firstWithout_10 : decode cX11_firstWithout 10 = .ok (.aload_n 0, 1) := by decide +kernel
theorem dX11_firstWithout_11 : decode cX11_firstWithout 11 = .ok (.getfield 62, 3) := by decide +kernel
theorem dX11_firstWithout_14 : decode cX11_firstWithout 14 = .ok (.getfield 222, 3) := by decide +kernel
theorem dX11_firstWithout_17 : decode cX11_firstWithout 17 = .ok (.if_icmp .ge 70, 3) := by decide +kernel
theorem dX11_firstWithout_20 : decode cX11_firstWithout 20 = .ok (.iload 5, 2) := by decide +kernel
theorem dX11_firstWithout_22 : decode cX11_firstWithout 22 = .ok (.iload_n 1, 1) := by decide +kernel
theorem dX11_firstWithout_23 : decode cX11_firstWithout 23 = .ok (.if_icmp .eq 29, 3) := by decide +kernel
theorem dX11_firstWithout_26 : decode cX11_firstWithout 26 = .ok (.aload_n 0, 1) := by decide +kernel
theorem dX11_firstWithout_27 : decode cX11_firstWithout 27 = .ok (.iload 5, 2) := by decide +kernel
theorem dX11_firstWithout_29 : decode cX11_firstWithout 29 = .ok (.invokevirtual 145, 3) := by decide +kernel
theorem dX11_firstWithout_32 : decode cX11_firstWithout 32 = .ok (.ifCond .eq 20, 3) := by decide +kernel
theorem dX11_firstWithout_35 : decode cX11_firstWithout 35 = .ok (.aload_n 0, 1) := by decide +kernel
theorem dX11_firstWithout_36 : decode cX11_firstWithout 36 = .ok (.getfield 32, 3) := by decide +kernel
theorem dX11_firstWithout_39 : decode cX11_firstWithout 39 = .ok (.aload_n 0, 1) := by decide +kernel
theorem dX11_firstWithout_40 : decode cX11_firstWithout 40 = .ok (.getfield 62, 3) := by decide +kernel
theorem dX11_firstWithout_43 : decode cX11_firstWithout 43 = .ok (.getfield 163, 3) := by decide +kernel
theorem dX11_firstWithout_46 : decode cX11_firstWithout 46 = .ok (.invokevirtual 176, 3) := by decide +kernel
theorem dX11_firstWithout_49 : decode cX11_firstWithout 49 = .ok (.goto 4, 3) := by decide +kernel
theorem dX11_firstWithout_52 : decode cX11_firstWithout 52 = .ok (.iconst (-1), 1) := by decide +kernel
theorem dX11_firstWithout_53 : decode cX11_firstWithout 53 = .ok (.istore 6, 2) := by decide +kernel
theorem dX11_firstWithout_55 : decode cX11_firstWithout 55 = .ok (.iload 6, 2) := by decide +kernel
theorem dX11_firstWithout_57 : decode cX11_firstWithout 57 = .ok (.iconst (-1), 1) := by decide +kernel
theorem dX11_firstWithout_58 : decode cX11_firstWithout 58 = .ok (.if_icmp .eq 23, 3) := by decide +kernel
theorem dX11_firstWithout_61 : decode cX11_firstWithout 61 = .ok (.iload 4, 2) := by decide +kernel
theorem dX11_firstWithout_63 : decode cX11_firstWithout 63 = .ok (.iconst (-1), 1) := by decide +kernel
theorem dX11_firstWithout_64 : decode cX11_firstWithout 64 = .ok (.if_icmp .eq 10, 3) := by decide +kernel
theorem dX11_firstWithout_67 : decode cX11_firstWithout 67 = .ok (.iload 6, 2) := by decide +kernel
theorem dX11_firstWithout_69 : decode cX11_firstWithout 69 = .ok (.iload 4, 2) := by decide +kernel
theorem dX11_firstWithout_71 : decode cX11_firstWithout 71 = .ok (.if_icmp .ge 10, 3) := by decide +kernel
theorem dX11_firstWithout_74 : decode cX11_firstWithout 74 = .ok (.iload 6, 2) := by decide +kernel
theorem dX11_firstWithout_76 : decode cX11_firstWithout 76 = .ok (.istore 4, 2) := by decide +kernel
theorem dX11_firstWithout_78 : decode cX11_firstWithout 78 = .ok (.iload 5, 2) := by decide +kernel
theorem dX11_firstWithout_80 : decode cX11_firstWithout 80 = .ok (.istore_n 3, 1) := by decide +kernel
theorem dX11_firstWithout_81 : decode cX11_firstWithout 81 = .ok (.iinc 5 1, 3) := by decide +kernel
theorem dX11_firstWithout_84 : decode cX11_firstWithout 84 = .ok (.goto (-76), 3) := by decide +kernel
theorem dX11_firstWithout_87 : decode cX11_firstWithout 87 = .ok (.iconst 0, 1) := by decide +kernel
theorem dX11_firstWithout_88 : decode cX11_firstWithout 88 = .ok (.istore 5, 2) := by decide +kernel
theorem dX11_firstWithout_90 : decode cX11_firstWithout 90 = .ok (.iload 5, 2) := by decide +kernel
theorem dX11_firstWithout_92 : decode cX11_firstWithout 92 = .ok (.aload_n 0, 1) := by decide +kernel
theorem dX11_firstWithout_93 : decode cX11_firstWithout 93 = .ok (.getfield 62, 3) := by decide +kernel
theorem dX11_firstWithout_96 : decode cX11_firstWithout 96 = .ok (.getfield 310, 3) := by decide +kernel
theorem dX11_firstWithout_99 : decode cX11_firstWithout 99 = .ok (.if_icmp .ge 72, 3) := by decide +kernel
theorem dX11_firstWithout_102 : decode cX11_firstWithout 102 = .ok (.iload 5, 2) := by decide +kernel
theorem dX11_firstWithout_104 : decode cX11_firstWithout 104 = .ok (.bipush 100, 2) := by decide +kernel
theorem dX11_firstWithout_106 : decode cX11_firstWithout 106 = .ok (.iadd, 1) := by decide +kernel
theorem dX11_firstWithout_107 : decode cX11_firstWithout 107 = .ok (.iload_n 1, 1) := by decide +kernel
theorem dX11_firstWithout_108 : decode cX11_firstWithout 108 = .ok (.if_icmp .eq 25, 3) := by decide +kernel
theorem dX11_firstWithout_111 : decode cX11_firstWithout 111 = .ok (.aload_n 0, 1) := by decide +kernel
theorem dX11_firstWithout_112 : decode cX11_firstWithout 112 = .ok (.getfield 62, 3) := by decide +kernel
theorem dX11_firstWithout_115 : decode cX11_firstWithout 115 = .ok (.getfield 163, 3) := by decide +kernel
theorem dX11_firstWithout_118 : decode cX11_firstWithout 118 = .ok (.aload_n 0, 1) := by decide +kernel
theorem dX11_firstWithout_119 : decode cX11_firstWithout 119 = .ok (.getfield 62, 3) := by decide +kernel
theorem dX11_firstWithout_122 : decode cX11_firstWithout 122 = .ok (.iload 5, 2) := by decide +kernel
theorem dX11_firstWithout_124 : decode cX11_firstWithout 124 = .ok (.invokevirtual 183, 3) := by decide +kernel
theorem dX11_firstWithout_127 : decode cX11_firstWithout 127 = .ok (.invokevirtual 186, 3) := by decide +kernel
theorem dX11_firstWithout_130 : decode cX11_firstWithout 130 = .ok (.goto 4, 3) := by decide +kernel
theorem dX11_firstWithout_133 : decode cX11_firstWithout 133 = .ok (.iconst (-1), 1) := by decide +kernel
theorem dX11_firstWithout_134 : decode cX11_firstWithout 134 = .ok (.istore 6, 2) := by decide +kernel
theorem dX11_firstWithout_136 : decode cX11_firstWithout 136 = .ok (.iload 6, 2) := by decide +kernel
theorem dX11_firstWithout_138 : decode cX11_firstWithout 138 = .ok (.iconst (-1), 1) := by decide +kernel
theorem dX11_firstWithout_139 : decode cX11_firstWithout 139 = .ok (.if_icmp .eq 26, 3) := by decide +kernel
theorem dX11_firstWithout_142 : decode cX11_firstWithout 142 = .ok (.iload 4, 2) := by decide +kernel
theorem dX11_firstWithout_144 : decode cX11_firstWithout 144 = .ok (.iconst (-1), 1) := by decide +kernel
theorem dX11_firstWithout_145 : decode cX11_firstWithout 145 = .ok (.if_icmp .eq 10, 3) := by decide +kernel
theorem dX11_firstWithout_148 : decode cX11_firstWithout 148 = .ok (.iload 6, 2) := by decide +kernel
theorem dX11_firstWithout_150 : decode cX11_firstWithout 150 = .ok (.iload 4, 2) := by decide +kernel
theorem dX11_firstWithout_152 : decode cX11_firstWithout 152 = .ok (.if_icmp .ge 13, 3) := by decide +kernel
theorem dX11_firstWithout_155 : decode cX11_firstWithout 155 = .ok (.iload 6, 2) := by decide +kernel
theorem dX11_firstWithout_157 : decode cX11_firstWithout 157 = .ok (.istore 4, 2) := by decide +kernel
theorem dX11_firstWithout_159 : decode cX11_firstWithout 159 = .ok (.iload 5, 2) := by decide +kernel
theorem dX11_firstWithout_161 : decode cX11_firstWithout 161 = .ok (.bipush 100, 2) := by decide +kernel
theorem dX11_firstWithout_163 : decode cX11_firstWithout 163 = .ok (.iadd, 1) := by decide +kernel
theorem dX11_firstWithout_164 : decode cX11_firstWithout 164 = .ok (.istore_n 3, 1) := by decide +kernel
theorem dX11_firstWithout_165 : decode cX11_firstWithout 165 = .ok (.iinc 5 1, 3) := by decide +kernel
theorem dX11_firstWithout_168 : decode cX11_firstWithout 168 = .ok (.goto (-78), 3) := by decide +kernel
theorem dX11_firstWithout_171 : decode cX11_firstWithout 171 = .ok (.iload_n 2, 1) := by decide +kernel
theorem dX11_firstWithout_172 : decode cX11_firstWithout 172 = .ok (.lookupswitch 33 #[(0, 28), (1, 30)], 28) := by decide +kernel
theorem dX11_firstWithout_200 : decode cX11_firstWithout 200 = .ok (.iload_n 3, 1) := by decide +kernel
theorem dX11_firstWithout_201 : decode cX11_firstWithout 201 = .ok (.ireturn, 1) := by decide +kernel
theorem dX11_firstWithout_202 : decode cX11_firstWithout 202 = .ok (.iload 4, 2) := by decide +kernel
theorem dX11_firstWithout_204 : decode cX11_firstWithout 204 = .ok (.ireturn, 1) := by decide +kernel
theorem dX11_firstWithout_205 : decode cX11_firstWithout 205 = .ok (.iconst (-1), 1) := by decide +kernel
theorem dX11_firstWithout_206 : decode cX11_firstWithout 206 = .ok (.ireturn, 1) := by decide +kernel
set_option maxRecDepth 20000 in
theorem ggX11_shownFrom_X11_isStrained : GoodIn wsX11_shownFrom wsX11_isStrained := goodIn_r _ [8, 2, 1, 9, 10, 11, 12, 13, 14, 15, 16, 17, 18, 19, 20, 21, 22, 23, 24, 25, 26, 27, 28, 29, 30, 31, 32, 33, 34, 35, 36, 37, 38, 39, 40, 41, 89, 90, 91, 92, 93, 94, 95, 96, 97, 98, 99, 112, 113, 114, 115, 116, 117, 118, 100, 101, 102, 103, 104, 105, 106, 107, 108, 109, 110, 111, 119, 120, 121, 122, 123, 124, 125, 126, 127, 128, 129, 130, 131, 132, 133, 134, 135] (by decide +kernel) (by decide +kernel)
set_option maxRecDepth 20000 in
theorem gX11_shownFrom_X11_isStrained : GoodIn wsX11_shownFrom (wsV RX11 145 RX11 yX11_isStrained wsX11_isStrained) := goodIn_app (goodIn_of _ (by decide +kernel)) ggX11_shownFrom_X11_isStrained
set_option maxRecDepth 20000 in
theorem ggX11_shownFrom_X8_goingHour : GoodIn wsX11_shownFrom wsX8_goingHour := goodIn_r _ [45, 46, 47, 48, 49, 21, 50, 51, 52, 53, 54, 55, 40, 56, 31, 57, 58, 59, 60, 61, 62, 63, 64, 65, 66, 29, 67, 68, 69, 70, 71, 72, 73, 74, 24, 27, 75, 76, 77, 78, 79, 80, 81, 82, 83, 84, 136, 137, 138, 139, 140, 119, 120, 121, 122, 123, 124] (by decide +kernel) (by decide +kernel)
set_option maxRecDepth 20000 in
theorem gX11_shownFrom_X8_goingHour : GoodIn wsX11_shownFrom (wsV RX11 176 RX8 yX8_goingHour wsX8_goingHour) := goodIn_app (goodIn_of _ (by decide +kernel)) ggX11_shownFrom_X8_goingHour
set_option maxRecDepth 20000 in
theorem ggX11_shownFrom_X8_leastBowing : GoodIn wsX11_shownFrom wsX8_leastBowing := goodIn_r _ [88, 63, 64, 65, 21, 66, 29, 67, 68, 69, 40, 70, 71, 72, 73, 74, 24, 27, 119, 120, 121, 122, 123, 124] (by decide +kernel) (by decide +kernel)
set_option maxRecDepth 20000 in
theorem gX11_shownFrom_X8_leastBowing : GoodIn wsX11_shownFrom (wsV RX11 160 RX8 yX8_leastBowing wsX8_leastBowing) := goodIn_app (goodIn_of _ (by decide +kernel)) ggX11_shownFrom_X8_leastBowing
theorem dX11_shownFrom_0 : decode cX11_shownFrom 0 = .ok (.aload_n 0, 1) := by decide +kernel
theorem dX11_shownFrom_1 : decode cX11_shownFrom 1 = .ok (.iload_n 1, 1) := by decide +kernel
theorem dX11_shownFrom_2 : decode cX11_shownFrom 2 = .ok (.invokevirtual 145, 3) := by decide +kernel
theorem dX11_shownFrom_5 : decode cX11_shownFrom 5 = .ok (.ifCond .eq 31, 3) := by decide +kernel
theorem dX11_shownFrom_8 : decode cX11_shownFrom 8 = .ok (.aload_n 0, 1) := by decide +kernel
theorem dX11_shownFrom_9 : decode cX11_shownFrom 9 = .ok (.getfield 32, 3) := by decide +kernel
theorem dX11_shownFrom_12 : decode cX11_shownFrom 12 = .ok (.aload_n 0, 1) := by decide +kernel
theorem dX11_shownFrom_13 : decode cX11_shownFrom 13 = .ok (.getfield 62, 3) := by decide +kernel
theorem dX11_shownFrom_16 : decode cX11_shownFrom 16 = .ok (.getfield 163, 3) := by decide +kernel
theorem dX11_shownFrom_19 : decode cX11_shownFrom 19 = .ok (.invokevirtual 176, 3) := by decide +kernel
theorem dX11_shownFrom_22 : decode cX11_shownFrom 22 = .ok (.iconst (-1), 1) := by decide +kernel
theorem dX11_shownFrom_23 : decode cX11_shownFrom 23 = .ok (.if_icmp .eq 13, 3) := by decide +kernel
theorem dX11_shownFrom_26 : decode cX11_shownFrom 26 = .ok (.aload_n 0, 1) := by decide +kernel
theorem dX11_shownFrom_27 : decode cX11_shownFrom 27 = .ok (.getfield 32, 3) := by decide +kernel
theorem dX11_shownFrom_30 : decode cX11_shownFrom 30 = .ok (.invokevirtual 160, 3) := by decide +kernel
theorem dX11_shownFrom_33 : decode cX11_shownFrom 33 = .ok (.goto 4, 3) := by decide +kernel
theorem dX11_shownFrom_36 : decode cX11_shownFrom 36 = .ok (.iconst (-1), 1) := by decide +kernel
theorem dX11_shownFrom_37 : decode cX11_shownFrom 37 = .ok (.ireturn, 1) := by decide +kernel
theorem dX11_forgetTaken_0 : decode cX11_forgetTaken 0 = .ok (.iconst 0, 1) := by decide +kernel
theorem dX11_forgetTaken_1 : decode cX11_forgetTaken 1 = .ok (.istore_n 1, 1) := by decide +kernel
theorem dX11_forgetTaken_2 : decode cX11_forgetTaken 2 = .ok (.iload_n 1, 1) := by decide +kernel
theorem dX11_forgetTaken_3 : decode cX11_forgetTaken 3 = .ok (.aload_n 0, 1) := by decide +kernel
theorem dX11_forgetTaken_4 : decode cX11_forgetTaken 4 = .ok (.getfield 57, 3) := by decide +kernel
theorem dX11_forgetTaken_7 : decode cX11_forgetTaken 7 = .ok (.arraylength, 1) := by decide +kernel
theorem dX11_forgetTaken_8 : decode cX11_forgetTaken 8 = .ok (.if_icmp .ge 16, 3) := by decide +kernel
theorem dX11_forgetTaken_11 : decode cX11_forgetTaken 11 = .ok (.aload_n 0, 1) := by decide +kernel
theorem dX11_forgetTaken_12 : decode cX11_forgetTaken 12 = .ok (.getfield 57, 3) := by decide +kernel
theorem dX11_forgetTaken_15 : decode cX11_forgetTaken 15 = .ok (.iload_n 1, 1) := by decide +kernel
theorem dX11_forgetTaken_16 : decode cX11_forgetTaken 16 = .ok (.iconst (-1), 1) := by decide +kernel
theorem dX11_forgetTaken_17 : decode cX11_forgetTaken 17 = .ok (.iastore, 1) := by decide +kernel
theorem dX11_forgetTaken_18 : decode cX11_forgetTaken 18 = .ok (.iinc 1 1, 3) := by decide +kernel
theorem dX11_forgetTaken_21 : decode cX11_forgetTaken 21 = .ok (.goto (-19), 3) := by decide +kernel
theorem dX11_forgetTaken_24 : decode cX11_forgetTaken 24 = .ok (.return_, 1) := by decide +kernel
set_option maxRecDepth 20000 in
theorem ggX11_peopleTaken_X1_pressAt : GoodIn wsX11_peopleTaken wsX1_pressAt := goodIn_r _ [10, 11, 12, 13, 14, 9, 15, 16, 17, 18, 19, 20, 21, 22, 23, 24, 25, 26, 112, 113, 114, 115, 116] (by decide +kernel) (by decide +kernel)
set_option maxRecDepth 20000 in
theorem gX11_peopleTaken_X1_pressAt : GoodIn wsX11_peopleTaken (wsV RX11 169 RX1 yX1_pressAt wsX1_pressAt) := goodIn_app (goodIn_of _ (by decide +kernel)) ggX11_peopleTaken_X1_pressAt
set_option maxRecDepth 20000 in
theorem ggX11_peopleTaken_X0_take : GoodIn wsX11_peopleTaken wsX0_take := goodIn_r _ [31, 32, 33, 34, 35, 36, 37, 38, 39, 40, 41, 42, 43, 44, 45, 30, 46, 117, 118, 119, 120, 121, 122, 123, 124, 125, 126, 127, 128, 129, 130, 131, 100, 101, 102, 103, 104, 105, 106, 107, 108, 109, 110, 111] (by decide +kernel) (by decide +kernel)
set_option maxRecDepth 20000 in
theorem gX11_peopleTaken_X0_take : GoodIn wsX11_peopleTaken (wsV RX11 360 RX0 yX0_take wsX0_take) := goodIn_app (goodIn_of _ (by decide +kernel)) ggX11_peopleTaken_X0_take
set_option maxRecDepth 20000 in
theorem ggX11_peopleTaken_X0_takenRooms : GoodIn wsX11_peopleTaken wsX0_takenRooms := goodIn_r _ [50, 51, 52, 53, 30, 54, 40, 55, 56, 57, 58, 59, 42, 60, 61, 62, 63, 64, 41, 65, 66, 34, 36, 67, 68, 69, 70, 38, 71, 72, 73, 74, 75, 76, 77, 78, 79, 80, 81, 124, 125, 126, 127, 128, 129, 130, 131, 132, 133, 134, 135, 136, 137] (by decide +kernel) (by decide +kernel)
set_option maxRecDepth 20000 in
theorem gX11_peopleTaken_X0_takenRooms : GoodIn wsX11_peopleTaken (wsV RX11 243 RX0 yX0_takenRooms wsX0_takenRooms) := goodIn_app (goodIn_of _ (by decide +kernel)) ggX11_peopleTaken_X0_takenRooms
set_option maxRecDepth 20000 in
theorem ggX11_peopleTaken_X6_peopleIn : GoodIn wsX11_peopleTaken wsX6_peopleIn := goodIn_r _ [85, 86, 87, 88, 132, 133, 134, 135, 136, 137] (by decide +kernel) (by decide +kernel)
set_option maxRecDepth 20000 in
theorem gX11_peopleTaken_X6_peopleIn : GoodIn wsX11_peopleTaken (wsV RX11 250 RX6 yX6_peopleIn wsX6_peopleIn) := goodIn_app (goodIn_of _ (by decide +kernel)) ggX11_peopleTaken_X6_peopleIn
theorem dX11_peopleTaken_0 : decode cX11_peopleTaken 0 = .ok (.aload_n 0, 1) := by decide +kernel
theorem dX11_peopleTaken_1 : decode cX11_peopleTaken 1 = .ok (.getfield 62, 3) := by decide +kernel
theorem dX11_peopleTaken_4 : decode cX11_peopleTaken 4 = .ok (.getfield 163, 3) := by decide +kernel
theorem dX11_peopleTaken_7 : decode cX11_peopleTaken 7 = .ok (.iload_n 2, 1) := by decide +kernel
theorem dX11_peopleTaken_8 : decode cX11_peopleTaken 8 = .ok (.invokevirtual 169, 3) := by decide +kernel
theorem dX11_peopleTaken_11 : decode cX11_peopleTaken 11 = .ok (.istore_n 3, 1) := by decide +kernel
theorem dX11_peopleTaken_12 : decode cX11_peopleTaken 12 = .ok (.iload_n 3, 1) := by decide +kernel
theorem dX11_peopleTaken_13 : decode cX11_peopleTaken 13 = .ok (.ifCond .lt 12, 3) := by decide +kernel
theorem dX11_peopleTaken_16 : decode cX11_peopleTaken 16 = .ok (.iload_n 3, 1) := by decide +kernel
theorem dX11_peopleTaken_17 : decode cX11_peopleTaken 17 = .ok (.aload_n 0, 1) := by decide +kernel
theorem dX11_peopleTaken_18 : decode cX11_peopleTaken 18 = .ok (.getfield 57, 3) := by decide +kernel
theorem dX11_peopleTaken_21 : decode cX11_peopleTaken 21 = .ok (.arraylength, 1) := by decide +kernel
theorem dX11_peopleTaken_22 : decode cX11_peopleTaken 22 = .ok (.if_icmp .lt 5, 3) := by decide +kernel
theorem dX11_peopleTaken_25 : decode cX11_peopleTaken 25 = .ok (.iconst 0, 1) := by decide +kernel
theorem dX11_peopleTaken_26 : decode cX11_peopleTaken 26 = .ok (.ireturn, 1) := by decide +kernel
theorem dX11_peopleTaken_27 : decode cX11_peopleTaken 27 = .ok (.aload_n 0, 1) := by decide +kernel
theorem dX11_peopleTaken_28 : decode cX11_peopleTaken 28 = .ok (.getfield 57, 3) := by decide +kernel
theorem dX11_peopleTaken_31 : decode cX11_peopleTaken 31 = .ok (.iload_n 3, 1) := by decide +kernel
theorem dX11_peopleTaken_32 : decode cX11_peopleTaken 32 = .ok (.iaload, 1) := by decide +kernel
theorem dX11_peopleTaken_33 : decode cX11_peopleTaken 33 = .ok (.iconst (-1), 1) := by decide +kernel
theorem dX11_peopleTaken_34 : decode cX11_peopleTaken 34 = .ok (.if_icmp .ne 29, 3) := by decide +kernel
theorem dX11_peopleTaken_37 : decode cX11_peopleTaken 37 = .ok (.aload_n 0, 1) := by decide +kernel
theorem dX11_peopleTaken_38 : decode cX11_peopleTaken 38 = .ok (.getfield 53, 3) := by decide +kernel
theorem dX11_peopleTaken_41 : decode cX11_peopleTaken 41 = .ok (.aload_n 0, 1) := by decide +kernel
theorem dX11_peopleTaken_42 : decode cX11_peopleTaken 42 = .ok (.getfield 62, 3) := by decide +kernel
theorem dX11_peopleTaken_45 : decode cX11_peopleTaken 45 = .ok (.aload_n 1, 1) := by decide +kernel
theorem dX11_peopleTaken_46 : decode cX11_peopleTaken 46 = .ok (.iload_n 3, 1) := by decide +kernel
theorem dX11_peopleTaken_47 : decode cX11_peopleTaken 47 = .ok (.invokevirtual 360, 3) := by decide +kernel
theorem dX11_peopleTaken_50 : decode cX11_peopleTaken 50 = .ok (.aload_n 0, 1) := by decide +kernel
theorem dX11_peopleTaken_51 : decode cX11_peopleTaken 51 = .ok (.getfield 57, 3) := by decide +kernel
theorem dX11_peopleTaken_54 : decode cX11_peopleTaken 54 = .ok (.iload_n 3, 1) := by decide +kernel
theorem dX11_peopleTaken_55 : decode cX11_peopleTaken 55 = .ok (.aload_n 0, 1) := by decide +kernel
theorem dX11_peopleTaken_56 : decode cX11_peopleTaken 56 = .ok (.getfield 53, 3) := by decide +kernel
theorem dX11_peopleTaken_59 : decode cX11_peopleTaken 59 = .ok (.invokevirtual 243, 3) := by decide +kernel
theorem dX11_peopleTaken_62 : decode cX11_peopleTaken 62 = .ok (.iastore, 1) := by decide +kernel
theorem dX11_peopleTaken_63 : decode cX11_peopleTaken 63 = .ok (.aload_n 0, 1) := by decide +kernel
theorem dX11_peopleTaken_64 : decode cX11_peopleTaken 64 = .ok (.getfield 62, 3) := by decide +kernel
theorem dX11_peopleTaken_67 : decode cX11_peopleTaken 67 = .ok (.getfield 246, 3) := by decide +kernel
theorem dX11_peopleTaken_70 : decode cX11_peopleTaken 70 = .ok (.aload_n 0, 1) := by decide +kernel
theorem dX11_peopleTaken_71 : decode cX11_peopleTaken 71 = .ok (.getfield 57, 3) := by decide +kernel
theorem dX11_peopleTaken_74 : decode cX11_peopleTaken 74 = .ok (.iload_n 3, 1) := by decide +kernel
theorem dX11_peopleTaken_75 : decode cX11_peopleTaken 75 = .ok (.iaload, 1) := by decide +kernel
theorem dX11_peopleTaken_76 : decode cX11_peopleTaken 76 = .ok (.iload_n 2, 1) := by decide +kernel
theorem dX11_peopleTaken_77 : decode cX11_peopleTaken 77 = .ok (.invokevirtual 250, 3) := by decide +kernel
theorem dX11_peopleTaken_80 : decode cX11_peopleTaken 80 = .ok (.ireturn, 1) := by decide +kernel
theorem dX12_in_0 : decode cX12_in 0 = .ok (.lload_n 0, 1) := by decide +kernel
theorem dX12_in_1 : decode cX12_in 1 = .ok (.lload_n 2, 1) := by decide +kernel
theorem dX12_in_2 : decode cX12_in 2 = .ok (.lcmp, 1) := by decide +kernel
theorem dX12_in_3 : decode cX12_in 3 = .ok (.ifCond .lt 14, 3) := by decide +kernel
theorem dX12_in_6 : decode cX12_in 6 = .ok (.lload_n 0, 1) := by decide +kernel
theorem dX12_in_7 : decode cX12_in 7 = .ok (.lload 4, 2) := by decide +kernel
theorem dX12_in_9 : decode cX12_in 9 = .ok (.lcmp, 1) := by decide +kernel
theorem dX12_in_10 : decode cX12_in 10 = .ok (.ifCond .gt 7, 3) := by decide +kernel
theorem dX12_in_13 : decode cX12_in 13 = .ok (.iconst 1, 1) := by decide +kernel
theorem dX12_in_14 : decode cX12_in 14 = .ok (.goto 4, 3) := by decide +kernel
theorem dX12_in_17 : decode cX12_in 17 = .ok (.iconst 0, 1) := by decide +kernel
theorem dX12_in_18 : decode cX12_in 18 = .ok (.ireturn, 1) := by decide +kernel
theorem dX12_holds_0 : decode cX12_holds 0 = .ok (.iload_n 0, 1) := by decide +kernel
theorem dX12_holds_1 : decode cX12_holds 1 = .ok (.iload_n 1, 1) := by decide +kernel
theorem dX12_holds_2 : decode cX12_holds 2 = .ok (.ishr, 1) := by decide +kernel
theorem dX12_holds_3 : decode cX12_holds 3 = .ok (.iconst 1, 1) := by decide +kernel
theorem dX12_holds_4 : decode cX12_holds 4 = .ok (.iand, 1) := by decide +kernel
theorem dX12_holds_5 : decode cX12_holds 5 = .ok (.iconst 1, 1) := by decide +kernel
theorem dX12_holds_6 : decode cX12_holds 6 = .ok (.if_icmp .ne 7, 3) := by decide +kernel
theorem dX12_holds_9 : decode cX12_holds 9 = .ok (.iconst 1, 1) := by decide +kernel
theorem dX12_holds_10 : decode cX12_holds 10 = .ok (.goto 4, 3) := by decide +kernel
theorem dX12_holds_13 : decode cX12_holds 13 = .ok (.iconst 0, 1) := by decide +kernel
theorem dX12_holds_14 : decode cX12_holds 14 = .ok (.ireturn, 1) := by decide +kernel
theorem dX12_ones_0 : decode cX12_ones 0 = .ok (.iconst 0, 1) := by decide +kernel
theorem dX12_ones_1 : decode cX12_ones 1 = .ok (.istore_n 1, 1) := by decide +kernel
theorem dX12_ones_2 : decode cX12_ones 2 = .ok (.iconst 0, 1) := by decide +kernel
theorem dX12_ones_3 : decode cX12_ones 3 = .ok (.istore_n 2, 1) := by decide +kernel
theorem dX12_ones_4 : decode cX12_ones 4 = .ok (.iload_n 2, 1) := by decide +kernel
theorem dX12_ones_5 : decode cX12_ones 5 = .ok (.bipush 16, 2) := by decide +kernel
theorem dX12_ones_7 : decode cX12_ones 7 = .ok (.if_icmp .ge 17, 3) := by decide +kernel
theorem dX12_ones_10 : decode cX12_ones 10 = .ok (.iload_n 1, 1) := by decide +kernel
theorem dX12_ones_11 : decode cX12_ones 11 = .ok (.iload_n 0, 1) := by decide +kernel
theorem dX12_ones_12 : decode cX12_ones 12 = .ok (.iload_n 2, 1) := by decide +kernel
theorem dX12_ones_13 : decode cX12_ones 13 = .ok (.ishr, 1) := by decide +kernel
theorem dX12_ones_14 : decode cX12_ones 14 = .ok (.iconst 1, 1) := by decide +kernel
theorem dX12_ones_15 : decode cX12_ones 15 = .ok (.iand, 1) := by decide +kernel
theorem dX12_ones_16 : decode cX12_ones 16 = .ok (.iadd, 1) := by decide +kernel
theorem dX12_ones_17 : decode cX12_ones 17 = .ok (.istore_n 1, 1) := by decide +kernel
theorem dX12_ones_18 : decode cX12_ones 18 = .ok (.iinc 2 1, 3) := by decide +kernel
theorem dX12_ones_21 : decode cX12_ones 21 = .ok (.goto (-17), 3) := by decide +kernel
theorem dX12_ones_24 : decode cX12_ones 24 = .ok (.iload_n 1, 1) := by decide +kernel
theorem dX12_ones_25 : decode cX12_ones 25 = .ok (.ireturn, 1) := by decide +kernel
theorem dX12_init_0 : decode cX12_init 0 = .ok (.aload_n 0, 1) := by decide +kernel
theorem dX12_init_1 : decode cX12_init 1 = .ok (.invokespecial 7, 3) := by decide +kernel
theorem dX12_init_4 : decode cX12_init 4 = .ok (.aload_n 0, 1) := by decide +kernel
theorem dX12_init_5 : decode cX12_init 5 = .ok (.sipush 2482, 3) := by decide +kernel
theorem dX12_init_8 : decode cX12_init 8 = .ok (.newarray .int, 2) := by decide +kernel
theorem dX12_init_10 : decode cX12_init 10 = .ok (.putfield 13, 3) := by decide +kernel
theorem dX12_init_13 : decode cX12_init 13 = .ok (.aload_n 0, 1) := by decide +kernel
theorem dX12_init_14 : decode cX12_init 14 = .ok (.sipush 7446, 3) := by decide +kernel
theorem dX12_init_17 : decode cX12_init 17 = .ok (.newarray .int, 2) := by decide +kernel
theorem dX12_init_19 : decode cX12_init 19 = .ok (.putfield 17, 3) := by decide +kernel
theorem dX12_init_22 : decode cX12_init 22 = .ok (.aload_n 0, 1) := by decide +kernel
theorem dX12_init_23 : decode cX12_init 23 = .ok (.iconst 3, 1) := by decide +kernel
theorem dX12_init_24 : decode cX12_init 24 = .ok (.newarray .boolean, 2) := by decide +kernel
theorem dX12_init_26 : decode cX12_init 26 = .ok (.putfield 20, 3) := by decide +kernel
theorem dX12_init_29 : decode cX12_init 29 = .ok (.aload_n 0, 1) := by decide +kernel
theorem dX12_init_30 : decode cX12_init 30 = .ok (.sipush 1600, 3) := by decide +kernel
theorem dX12_init_33 : decode cX12_init 33 = .ok (.newarray .byte, 2) := by decide +kernel
theorem dX12_init_35 : decode cX12_init 35 = .ok (.putfield 24, 3) := by decide +kernel
theorem dX12_init_38 : decode cX12_init 38 = .ok (.aload_n 0, 1) := by decide +kernel
theorem dX12_init_39 : decode cX12_init 39 = .ok (.iconst 5, 1) := by decide +kernel
theorem dX12_init_40 : decode cX12_init 40 = .ok (.newarray .int, 2) := by decide +kernel
theorem dX12_init_42 : decode cX12_init 42 = .ok (.putfield 28, 3) := by decide +kernel
theorem dX12_init_45 : decode cX12_init 45 = .ok (.aload_n 0, 1) := by decide +kernel
theorem dX12_init_46 : decode cX12_init 46 = .ok (.iconst (-1), 1) := by decide +kernel
theorem dX12_init_47 : decode cX12_init 47 = .ok (.putfield 31, 3) := by decide +kernel
theorem dX12_init_50 : decode cX12_init 50 = .ok (.aload_n 0, 1) := by decide +kernel
theorem dX12_init_51 : decode cX12_init 51 = .ok (.sipush 2482, 3) := by decide +kernel
theorem dX12_init_54 : decode cX12_init 54 = .ok (.newarray .int, 2) := by decide +kernel
theorem dX12_init_56 : decode cX12_init 56 = .ok (.putfield 34, 3) := by decide +kernel
theorem dX12_init_59 : decode cX12_init 59 = .ok (.aload_n 0, 1) := by decide +kernel
theorem dX12_init_60 : decode cX12_init 60 = .ok (.bipush 8, 2) := by decide +kernel
theorem dX12_init_62 : decode cX12_init 62 = .ok (.newarray .int, 2) := by decide +kernel
theorem dX12_init_64 : decode cX12_init 64 = .ok (.putfield 37, 3) := by decide +kernel
theorem dX12_init_67 : decode cX12_init 67 = .ok (.aload_n 0, 1) := by decide +kernel
theorem dX12_init_68 : decode cX12_init 68 = .ok (.bipush 8, 2) := by decide +kernel
theorem dX12_init_70 : decode cX12_init 70 = .ok (.newarray .int, 2) := by decide +kernel
theorem dX12_init_72 : decode cX12_init 72 = .ok (.putfield 40, 3) := by decide +kernel
theorem dX12_init_75 : decode cX12_init 75 = .ok (.aload_n 0, 1) := by decide +kernel
theorem dX12_init_76 : decode cX12_init 76 = .ok (.bipush 8, 2) := by decide +kernel
theorem dX12_init_78 : decode cX12_init 78 = .ok (.newarray .int, 2) := by decide +kernel
theorem dX12_init_80 : decode cX12_init 80 = .ok (.putfield 43, 3) := by decide +kernel
theorem dX12_init_83 : decode cX12_init 83 = .ok (.aload_n 0, 1) := by decide +kernel
theorem dX12_init_84 : decode cX12_init 84 = .ok (.bipush 8, 2) := by decide +kernel
theorem dX12_init_86 : decode cX12_init 86 = .ok (.newarray .int, 2) := by decide +kernel
theorem dX12_init_88 : decode cX12_init 88 = .ok (.putfield 46, 3) := by decide +kernel
theorem dX12_init_91 : decode cX12_init 91 = .ok (.aload_n 0, 1) := by decide +kernel
theorem dX12_init_92 : decode cX12_init 92 = .ok (.sipush 2000, 3) := by decide +kernel
theorem dX12_init_95 : decode cX12_init 95 = .ok (.newarray .int, 2) := by decide +kernel
theorem dX12_init_97 : decode cX12_init 97 = .ok (.putfield 49, 3) := by decide +kernel
theorem dX12_init_100 : decode cX12_init 100 = .ok (.aload_n 0, 1) := by decide +kernel
theorem dX12_init_101 : decode cX12_init 101 = .ok (.sipush 1000, 3) := by decide +kernel
theorem dX12_init_104 : decode cX12_init 104 = .ok (.newarray .int, 2) := by decide +kernel
theorem dX12_init_106 : decode cX12_init 106 = .ok (.putfield 52, 3) := by decide +kernel
theorem dX12_init_109 : decode cX12_init 109 = .ok (.aload_n 0, 1) := by decide +kernel
theorem dX12_init_110 : decode cX12_init 110 = .ok (.bipush 17, 2) := by decide +kernel
theorem dX12_init_112 : decode cX12_init 112 = .ok (.newarray .int, 2) := by decide +kernel
theorem dX12_init_114 : decode cX12_init 114 = .ok (.putfield 55, 3) := by decide +kernel
theorem dX12_init_117 : decode cX12_init 117 = .ok (.aload_n 0, 1) := by decide +kernel
theorem dX12_init_118 : decode cX12_init 118 = .ok (.iconst (-1), 1) := by decide +kernel
theorem dX12_init_119 : decode cX12_init 119 = .ok (.putfield 58, 3) := by decide +kernel
theorem dX12_init_122 : decode cX12_init 122 = .ok (.aload_n 0, 1) := by decide +kernel
theorem dX12_init_123 : decode cX12_init 123 = .ok (.iconst 4, 1) := by decide +kernel
theorem dX12_init_124 : decode cX12_init 124 = .ok (.newarray .int, 2) := by decide +kernel
theorem dX12_init_126 : decode cX12_init 126 = .ok (.dup, 1) := by decide +kernel
theorem dX12_init_127 : decode cX12_init 127 = .ok (.iconst 0, 1) := by decide +kernel
theorem dX12_init_128 : decode cX12_init 128 = .ok (.iconst (-1), 1) := by decide +kernel
theorem dX12_init_129 : decode cX12_init 129 = .ok (.iastore, 1) := by decide +kernel
theorem dX12_init_130 : decode cX12_init 130 = .ok (.dup, 1) := by decide +kernel
theorem dX12_init_131 : decode cX12_init 131 = .ok (.iconst 1, 1) := by decide +kernel
theorem dX12_init_132 : decode cX12_init 132 = .ok (.iconst (-1), 1) := by decide +kernel
theorem dX12_init_133 : decode cX12_init 133 = .ok (.iastore, 1) := by decide +kernel
theorem dX12_init_134 : decode cX12_init 134 = .ok (.dup, 1) := by decide +kernel
theorem dX12_init_135 : decode cX12_init 135 = .ok (.iconst 2, 1) := by decide +kernel
theorem dX12_init_136 : decode cX12_init 136 = .ok (.iconst (-1), 1) := by decide +kernel
theorem dX12_init_137 : decode cX12_init 137 = .ok (.iastore, 1) := by decide +kernel
theorem dX12_init_138 : decode cX12_init 138 = .ok (.dup, 1) := by decide +kernel
theorem dX12_init_139 : decode cX12_init 139 = .ok (.iconst 3, 1) := by decide +kernel
theorem dX12_init_140 : decode cX12_init 140 = .ok (.iconst (-1), 1) := by decide +kernel
theorem dX12_init_141 : decode cX12_init 141 = .ok (.iastore, 1) := by decide +kernel
theorem dX12_init_142 : decode cX12_init 142 = .ok (.putfield 61, 3) := by decide +kernel
theorem dX12_init_145 : decode cX12_init 145 = .ok (.aload_n 0, 1) := by decide +kernel
theorem dX12_init_146 : decode cX12_init 146 = .ok (.iconst 4, 1) := by decide +kernel
theorem dX12_init_147 : decode cX12_init 147 = .ok (.newarray .int, 2) := by decide +kernel
theorem dX12_init_149 : decode cX12_init 149 = .ok (.putfield 64, 3) := by decide +kernel
theorem dX12_init_152 : decode cX12_init 152 = .ok (.aload_n 0, 1) := by decide +kernel
theorem dX12_init_153 : decode cX12_init 153 = .ok (.sipush 240, 3) := by decide +kernel
theorem dX12_init_156 : decode cX12_init 156 = .ok (.newarray .long, 2) := by decide +kernel
theorem dX12_init_158 : decode cX12_init 158 = .ok (.putfield 67, 3) := by decide +kernel
theorem dX12_init_161 : decode cX12_init 161 = .ok (.aload_n 0, 1) := by decide +kernel
theorem dX12_init_162 : decode cX12_init 162 = .ok (.bipush 60, 2) := by decide +kernel
theorem dX12_init_164 : decode cX12_init 164 = .ok (.newarray .long, 2) := by decide +kernel
theorem dX12_init_166 : decode cX12_init 166 = .ok (.putfield 71, 3) := by decide +kernel
theorem dX12_init_169 : decode cX12_init 169 = .ok (.return_, 1) := by decide +kernel
set_option maxRecDepth 20000 in
theorem ggX12_keep_X12_in : GoodIn wsX12_keep wsX12_in := goodIn_r _ [8] (by decide +kernel) (by decide +kernel)
set_option maxRecDepth 20000 in
theorem gX12_keep_X12_in : GoodIn wsX12_keep (va_wsS RX12 76 yX12_in wsX12_in) := goodIn_app (goodIn_of _ (by decide +kernel)) ggX12_keep_X12_in
theorem dX12_keep_0 : decode cX12_keep 0 = .ok (.iload_n 1, 1) := by decide +kernel
theorem dX12_keep_1 : decode cX12_keep 1 = .ok (.i2l, 1) := by decide +kernel
theorem dX12_keep_2 : decode cX12_keep 2 = .ok (.lconst 0, 1) := by decide +kernel
theorem dX12_keep_3 : decode cX12_keep 3 = .ok (.ldc2_w 74, 3) := by decide +kernel
theorem dX12_keep_6 : decode cX12_keep 6 = .ok (.invokestatic 76, 3) := by decide +kernel
theorem dX12_keep_9 : decode cX12_keep 9 = .ok (.ifCond .ne 6, 3) := by decide +kernel
theorem dX12_keep_12 : decode cX12_keep 12 = .ok (.bipush (-2), 2) := by decide +kernel
theorem dX12_keep_14 : decode cX12_keep 14 = .ok (.ireturn, 1) := by decide +kernel
theorem dX12_keep_15 : decode cX12_keep 15 = .ok (.iconst 0, 1) := by decide +kernel
theorem dX12_keep_16 : decode cX12_keep 16 = .ok (.istore_n 2, 1) := by decide +kernel
theorem dX12_keep_17 : decode cX12_keep 17 = .ok (.iload_n 2, 1) := by decide +kernel
theorem dX12_keep_18 : decode cX12_keep 18 = .ok (.sipush 2482, 3) := by decide +kernel
theorem dX12_keep_21 : decode cX12_keep 21 = .ok (.if_icmp .ge 27, 3) := by decide +kernel
theorem dX12_keep_24 : decode cX12_keep 24 = .ok (.aload_n 0, 1) := by decide +kernel
theorem dX12_keep_25 : decode cX12_keep 25 = .ok (.getfield 17, 3) := by decide +kernel
theorem dX12_keep_28 : decode cX12_keep 28 = .ok (.sipush 2482, 3) := by decide +kernel
theorem dX12_keep_31 : decode cX12_keep 31 = .ok (.iload_n 1, 1) := by decide +kernel
theorem dX12_keep_32 : decode cX12_keep 32 = .ok (.imul, 1) := by decide +kernel
theorem dX12_keep_33 : decode cX12_keep 33 = .ok (.iload_n 2, 1) := by decide +kernel
theorem dX12_keep_34 : decode cX12_keep 34 = .ok (.iadd, 1) := by decide +kernel
theorem dX12_keep_35 : decode cX12_keep 35 = .ok (.aload_n 0, 1) := by decide +kernel
theorem dX12_keep_36 : decode cX12_keep 36 = .ok (.getfield 13, 3) := by decide +kernel
theorem dX12_keep_39 : decode cX12_keep 39 = .ok (.iload_n 2, 1) := by decide +kernel
theorem dX12_keep_40 : decode cX12_keep 40 = .ok (.iaload, 1) := by decide +kernel
theorem dX12_keep_41 : decode cX12_keep 41 = .ok (.iastore, 1) := by decide +kernel
theorem dX12_keep_42 : decode cX12_keep 42 = .ok (.iinc 2 1, 3) := by decide +kernel
theorem dX12_keep_45 : decode cX12_keep 45 = .ok (.goto (-28), 3) := by decide +kernel
theorem dX12_keep_48 : decode cX12_keep 48 = .ok (.aload_n 0, 1) := by decide +kernel
theorem dX12_keep_49 : decode cX12_keep 49 = .ok (.getfield 20, 3) := by decide +kernel
theorem dX12_keep_52 : decode cX12_keep 52 = .ok (.iload_n 1, 1) := by decide +kernel
theorem dX12_keep_53 : decode cX12_keep 53 = .ok (.iconst 1, 1) := by decide +kernel
