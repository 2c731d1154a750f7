theorem dX7_cut_4 : decode cX7_cut 4 = .ok (.tableswitch 42 0 2 #[28, 33, 38], 28) := by decide +kernel
theorem dX7_cut_32 : decode cX7_cut 32 = .ok (.lload_n 1, 1) := by decide +kernel
theorem dX7_cut_33 : decode cX7_cut 33 = .ok (.l2i, 1) := by decide +kernel
theorem dX7_cut_34 : decode cX7_cut 34 = .ok (.i2b, 1) := by decide +kernel
theorem dX7_cut_35 : decode cX7_cut 35 = .ok (.i2l, 1) := by decide +kernel
theorem dX7_cut_36 : decode cX7_cut 36 = .ok (.lreturn, 1) := by decide +kernel
theorem dX7_cut_37 : decode cX7_cut 37 = .ok (.lload_n 1, 1) := by decide +kernel
theorem dX7_cut_38 : decode cX7_cut 38 = .ok (.l2i, 1) := by decide +kernel
theorem dX7_cut_39 : decode cX7_cut 39 = .ok (.i2s, 1) := by decide +kernel
theorem dX7_cut_40 : decode cX7_cut 40 = .ok (.i2l, 1) := by decide +kernel
theorem dX7_cut_41 : decode cX7_cut 41 = .ok (.lreturn, 1) := by decide +kernel
theorem dX7_cut_42 : decode cX7_cut 42 = .ok (.lload_n 1, 1) := by decide +kernel
theorem dX7_cut_43 : decode cX7_cut 43 = .ok (.l2i, 1) := by decide +kernel
theorem dX7_cut_44 : decode cX7_cut 44 = .ok (.i2l, 1) := by decide +kernel
theorem dX7_cut_45 : decode cX7_cut 45 = .ok (.lreturn, 1) := by decide +kernel
theorem dX7_cut_46 : decode cX7_cut 46 = .ok (.lload_n 1, 1) := by decide +kernel
theorem dX7_cut_47 : decode cX7_cut 47 = .ok (.lreturn, 1) := by decide +kernel
theorem dX7_hasSpan_0 : decode cX7_hasSpan 0 = .ok (.iload_n 1, 1) := by decide +kernel
theorem dX7_hasSpan_1 : decode cX7_hasSpan 1 = .ok (.ifCond .lt 25, 3) := by decide +kernel
theorem dX7_hasSpan_4 : decode cX7_hasSpan 4 = .ok (.iload_n 2, 1) := by decide +kernel
theorem dX7_hasSpan_5 : decode cX7_hasSpan 5 = .ok (.ifCond .lt 21, 3) := by decide +kernel
theorem dX7_hasSpan_8 : decode cX7_hasSpan 8 = .ok (.iload_n 1, 1) := by decide +kernel
theorem dX7_hasSpan_9 : decode cX7_hasSpan 9 = .ok (.i2l, 1) := by decide +kernel
theorem dX7_hasSpan_10 : decode cX7_hasSpan 10 = .ok (.iload_n 2, 1) := by decide +kernel
theorem dX7_hasSpan_11 : decode cX7_hasSpan 11 = .ok (.i2l, 1) := by decide +kernel
theorem dX7_hasSpan_12 : decode cX7_hasSpan 12 = .ok (.ladd, 1) := by decide +kernel
theorem dX7_hasSpan_13 : decode cX7_hasSpan 13 = .ok (.aload_n 0, 1) := by decide +kernel
theorem dX7_hasSpan_14 : decode cX7_hasSpan 14 = .ok (.getfield 19, 3) := by decide +kernel
theorem dX7_hasSpan_17 : decode cX7_hasSpan 17 = .ok (.i2l, 1) := by decide +kernel
theorem dX7_hasSpan_18 : decode cX7_hasSpan 18 = .ok (.lcmp, 1) := by decide +kernel
theorem dX7_hasSpan_19 : decode cX7_hasSpan 19 = .ok (.ifCond .gt 7, 3) := by decide +kernel
theorem dX7_hasSpan_22 : decode cX7_hasSpan 22 = .ok (.iconst 1, 1) := by decide +kernel
theorem dX7_hasSpan_23 : decode cX7_hasSpan 23 = .ok (.goto 4, 3) := by decide +kernel
theorem dX7_hasSpan_26 : decode cX7_hasSpan 26 = .ok (.iconst 0, 1) := by decide +kernel
theorem dX7_hasSpan_27 : decode cX7_hasSpan 27 = .ok (.ireturn, 1) := by decide +kernel
theorem dX8_init_0 : decode cX8_init 0 = .ok (.aload_n 0, 1) := by decide +kernel
theorem dX8_init_1 : decode cX8_init 1 = .ok (.invokespecial 3, 3) := by decide +kernel
theorem dX8_init_4 : decode cX8_init 4 = .ok (.aload_n 0, 1) := by decide +kernel
theorem dX8_init_5 : decode cX8_init 5 = .ok (.lconst 0, 1) := by decide +kernel
theorem dX8_init_6 : decode cX8_init 6 = .ok (.putfield 9, 3) := by decide +kernel
theorem dX8_init_9 : decode cX8_init 9 = .ok (.aload_n 0, 1) := by decide +kernel
theorem dX8_init_10 : decode cX8_init 10 = .ok (.iconst (-1), 1) := by decide +kernel
theorem dX8_init_11 : decode cX8_init 11 = .ok (.putfield 15, 3) := by decide +kernel
theorem dX8_init_14 : decode cX8_init 14 = .ok (.aload_n 0, 1) := by decide +kernel
theorem dX8_init_15 : decode cX8_init 15 = .ok (.lconst 0, 1) := by decide +kernel
theorem dX8_init_16 : decode cX8_init 16 = .ok (.putfield 19, 3) := by decide +kernel
theorem dX8_init_19 : decode cX8_init 19 = .ok (.aload_n 0, 1) := by decide +kernel
theorem dX8_init_20 : decode cX8_init 20 = .ok (.lconst 0, 1) := by decide +kernel
theorem dX8_init_21 : decode cX8_init 21 = .ok (.putfield 22, 3) := by decide +kernel
theorem dX8_init_24 : decode cX8_init 24 = .ok (.aload_n 0, 1) := by decide +kernel
theorem dX8_init_25 : decode cX8_init 25 = .ok (.iconst 1, 1) := by decide +kernel
theorem dX8_init_26 : decode cX8_init 26 = .ok (.putfield 25, 3) := by decide +kernel
theorem dX8_init_29 : decode cX8_init 29 = .ok (.aload_n 0, 1) := by decide +kernel
theorem dX8_init_30 : decode cX8_init 30 = .ok (.iconst 0, 1) := by decide +kernel
theorem dX8_init_31 : decode cX8_init 31 = .ok (.putfield 28, 3) := by decide +kernel
theorem dX8_init_34 : decode cX8_init 34 = .ok (.return_, 1) := by decide +kernel
set_option maxRecDepth 20000 in
theorem ggX8_take_X3_leverOfAll : GoodIn wsX8_take wsX3_leverOfAll := goodIn_r _ [14, 15, 16, 17, 18, 19, 33, 34, 35, 36, 37, 38, 39, 40, 41, 42, 43] (by decide +kernel) (by decide +kernel)
set_option maxRecDepth 20000 in
theorem gX8_take_X3_leverOfAll : GoodIn wsX8_take (wsV RX8 37 RX3 yX3_leverOfAll wsX3_leverOfAll) := goodIn_app (goodIn_of _ (by decide +kernel)) ggX8_take_X3_leverOfAll
theorem dX8_take_0 : decode cX8_take 0 = .ok (.aload_n 0, 1) := by decide +kernel
theorem dX8_take_1 : decode cX8_take 1 = .ok (.iload_n 2, 1) := by decide +kernel
theorem dX8_take_2 : decode cX8_take 2 = .ok (.i2l, 1) := by decide +kernel
theorem dX8_take_3 : decode cX8_take 3 = .ok (.iload_n 2, 1) := by decide +kernel
theorem dX8_take_4 : decode cX8_take 4 = .ok (.i2l, 1) := by decide +kernel
theorem dX8_take_5 : decode cX8_take 5 = .ok (.lmul, 1) := by decide +kernel
theorem dX8_take_6 : decode cX8_take 6 = .ok (.aload_n 1, 1) := by decide +kernel
theorem dX8_take_7 : decode cX8_take 7 = .ok (.getfield 31, 3) := by decide +kernel
theorem dX8_take_10 : decode cX8_take 10 = .ok (.invokevirtual 37, 3) := by decide +kernel
theorem dX8_take_13 : decode cX8_take 13 = .ok (.i2l, 1) := by decide +kernel
theorem dX8_take_14 : decode cX8_take 14 = .ok (.lmul, 1) := by decide +kernel
theorem dX8_take_15 : decode cX8_take 15 = .ok (.putfield 19, 3) := by decide +kernel
theorem dX8_take_18 : decode cX8_take 18 = .ok (.aload_n 0, 1) := by decide +kernel
theorem dX8_take_19 : decode cX8_take 19 = .ok (.iload_n 3, 1) := by decide +kernel
theorem dX8_take_20 : decode cX8_take 20 = .ok (.ifCond .eq 7, 3) := by decide +kernel
theorem dX8_take_23 : decode cX8_take 23 = .ok (.lconst 0, 1) := by decide +kernel
theorem dX8_take_24 : decode cX8_take 24 = .ok (.goto 18, 3) := by decide +kernel
theorem dX8_take_27 : decode cX8_take 27 = .ok (.ldc2_w 43, 3) := by decide +kernel
theorem dX8_take_30 : decode cX8_take 30 = .ok (.aload_n 1, 1) := by decide +kernel
theorem dX8_take_31 : decode cX8_take 31 = .ok (.getfield 31, 3) := by decide +kernel
theorem dX8_take_34 : decode cX8_take 34 = .ok (.getfield 45, 3) := by decide +kernel
theorem dX8_take_37 : decode cX8_take 37 = .ok (.i2l, 1) := by decide +kernel
theorem dX8_take_38 : decode cX8_take 38 = .ok (.lmul, 1) := by decide +kernel
theorem dX8_take_39 : decode cX8_take 39 = .ok (.iload_n 2, 1) := by decide +kernel
theorem dX8_take_40 : decode cX8_take 40 = .ok (.i2l, 1) := by decide +kernel
theorem dX8_take_41 : decode cX8_take 41 = .ok (.lmul, 1) := by decide +kernel
theorem dX8_take_42 : decode cX8_take 42 = .ok (.putfield 22, 3) := by decide +kernel
theorem dX8_take_45 : decode cX8_take 45 = .ok (.aload_n 0, 1) := by decide +kernel
theorem dX8_take_46 : decode cX8_take 46 = .ok (.aload_n 1, 1) := by decide +kernel
theorem dX8_take_47 : decode cX8_take 47 = .ok (.getfield 48, 3) := by decide +kernel
theorem dX8_take_50 : decode cX8_take 50 = .ok (.i2l, 1) := by decide +kernel
theorem dX8_take_51 : decode cX8_take 51 = .ok (.putfield 9, 3) := by decide +kernel
theorem dX8_take_54 : decode cX8_take 54 = .ok (.aload_n 0, 1) := by decide +kernel
theorem dX8_take_55 : decode cX8_take 55 = .ok (.aload_n 1, 1) := by decide +kernel
theorem dX8_take_56 : decode cX8_take 56 = .ok (.getfield 50, 3) := by decide +kernel
theorem dX8_take_59 : decode cX8_take 59 = .ok (.putfield 25, 3) := by decide +kernel
theorem dX8_take_62 : decode cX8_take 62 = .ok (.return_, 1) := by decide +kernel
theorem dX8_needAt_0 : decode cX8_needAt 0 = .ok (.iload_n 1, 1) := by decide +kernel
theorem dX8_needAt_1 : decode cX8_needAt 1 = .ok (.i2l, 1) := by decide +kernel
theorem dX8_needAt_2 : decode cX8_needAt 2 = .ok (.aload_n 0, 1) := by decide +kernel
theorem dX8_needAt_3 : decode cX8_needAt 3 = .ok (.getfield 19, 3) := by decide +kernel
theorem dX8_needAt_6 : decode cX8_needAt 6 = .ok (.lmul, 1) := by decide +kernel
theorem dX8_needAt_7 : decode cX8_needAt 7 = .ok (.aload_n 0, 1) := by decide +kernel
theorem dX8_needAt_8 : decode cX8_needAt 8 = .ok (.getfield 22, 3) := by decide +kernel
theorem dX8_needAt_11 : decode cX8_needAt 11 = .ok (.ladd, 1) := by decide +kernel
theorem dX8_needAt_12 : decode cX8_needAt 12 = .ok (.lreturn, 1) := by decide +kernel
set_option maxRecDepth 20000 in
theorem ggX8_loadAt_X8_needAt : GoodIn wsX8_loadAt wsX8_needAt := goodIn_r _ [11, 12, 13, 14, 15, 16, 17, 18, 19] (by decide +kernel) (by decide +kernel)
set_option maxRecDepth 20000 in
theorem gX8_loadAt_X8_needAt : GoodIn wsX8_loadAt (wsV RX8 51 RX8 yX8_needAt wsX8_needAt) := goodIn_app (goodIn_of _ (by decide +kernel)) ggX8_loadAt_X8_needAt
theorem dX8_loadAt_0 : decode cX8_loadAt 0 = .ok (.aload_n 0, 1) := by decide +kernel
theorem dX8_loadAt_1 : decode cX8_loadAt 1 = .ok (.iload_n 1, 1) := by decide +kernel
theorem dX8_loadAt_2 : decode cX8_loadAt 2 = .ok (.invokevirtual 51, 3) := by decide +kernel
theorem dX8_loadAt_5 : decode cX8_loadAt 5 = .ok (.lstore_n 2, 1) := by decide +kernel
theorem dX8_loadAt_6 : decode cX8_loadAt 6 = .ok (.aload_n 0, 1) := by decide +kernel
theorem dX8_loadAt_7 : decode cX8_loadAt 7 = .ok (.getfield 9, 3) := by decide +kernel
theorem dX8_loadAt_10 : decode cX8_loadAt 10 = .ok (.lconst 0, 1) := by decide +kernel
theorem dX8_loadAt_11 : decode cX8_loadAt 11 = .ok (.lcmp, 1) := by decide +kernel
theorem dX8_loadAt_12 : decode cX8_loadAt 12 = .ok (.ifCond .gt 17, 3) := by decide +kernel
theorem dX8_loadAt_15 : decode cX8_loadAt 15 = .ok (.lload_n 2, 1) := by decide +kernel
theorem dX8_loadAt_16 : decode cX8_loadAt 16 = .ok (.lconst 0, 1) := by decide +kernel
theorem dX8_loadAt_17 : decode cX8_loadAt 17 = .ok (.lcmp, 1) := by decide +kernel
theorem dX8_loadAt_18 : decode cX8_loadAt 18 = .ok (.ifCond .ne 7, 3) := by decide +kernel
theorem dX8_loadAt_21 : decode cX8_loadAt 21 = .ok (.iconst 0, 1) := by decide +kernel
theorem dX8_loadAt_22 : decode cX8_loadAt 22 = .ok (.goto 6, 3) := by decide +kernel
theorem dX8_loadAt_25 : decode cX8_loadAt 25 = .ok (.sipush 10000, 3) := by decide +kernel
theorem dX8_loadAt_28 : decode cX8_loadAt 28 = .ok (.ireturn, 1) := by decide +kernel
theorem dX8_loadAt_29 : decode cX8_loadAt 29 = .ok (.ldc2_w 55, 3) := by decide +kernel
theorem dX8_loadAt_32 : decode cX8_loadAt 32 = .ok (.lload_n 2, 1) := by decide +kernel
theorem dX8_loadAt_33 : decode cX8_loadAt 33 = .ok (.aload_n 0, 1) := by decide +kernel
theorem dX8_loadAt_34 : decode cX8_loadAt 34 = .ok (.getfield 9, 3) := by decide +kernel
theorem dX8_loadAt_37 : decode cX8_loadAt 37 = .ok (.ldiv, 1) := by decide +kernel
theorem dX8_loadAt_38 : decode cX8_loadAt 38 = .ok (.invokestatic 57, 3) := by decide +kernel
theorem dX8_loadAt_41 : decode cX8_loadAt 41 = .ok (.l2i, 1) := by decide +kernel
theorem dX8_loadAt_42 : decode cX8_loadAt 42 = .ok (.ireturn, 1) := by decide +kernel
set_option maxRecDepth 20000 in
theorem ggX8_leastBowing_X8_loadAt : GoodIn wsX8_leastBowing wsX8_loadAt := goodIn_r _ [5, 6, 7, 8, 9, 10, 11, 12, 13, 14, 4, 15, 16, 17, 18, 19, 20, 21, 22, 23] (by decide +kernel) (by decide +kernel)
set_option maxRecDepth 20000 in
theorem gX8_leastBowing_X8_loadAt : GoodIn wsX8_leastBowing (wsV RX8 63 RX8 yX8_loadAt wsX8_loadAt) := goodIn_app (goodIn_of _ (by decide +kernel)) ggX8_leastBowing_X8_loadAt
theorem dX8_leastBowing_0 : decode cX8_leastBowing 0 = .ok (.iconst 0, 1) := by decide +kernel
theorem dX8_leastBowing_1 : decode cX8_leastBowing 1 = .ok (.istore_n 1, 1) := by decide +kernel
theorem dX8_leastBowing_2 : decode cX8_leastBowing 2 = .ok (.sipush 1000, 3) := by decide +kernel
theorem dX8_leastBowing_5 : decode cX8_leastBowing 5 = .ok (.istore_n 2, 1) := by decide +kernel
theorem dX8_leastBowing_6 : decode cX8_leastBowing 6 = .ok (.iconst 0, 1) := by decide +kernel
theorem dX8_leastBowing_7 : decode cX8_leastBowing 7 = .ok (.istore_n 3, 1) := by decide +kernel
theorem dX8_leastBowing_8 : decode cX8_leastBowing 8 = .ok (.iload_n 3, 1) := by decide +kernel
theorem dX8_leastBowing_9 : decode cX8_leastBowing 9 = .ok (.bipush 40, 2) := by decide +kernel
theorem dX8_leastBowing_11 : decode cX8_leastBowing 11 = .ok (.if_icmp .ge 51, 3) := by decide +kernel
theorem dX8_leastBowing_14 : decode cX8_leastBowing 14 = .ok (.iload_n 1, 1) := by decide +kernel
theorem dX8_leastBowing_15 : decode cX8_leastBowing 15 = .ok (.iload_n 2, 1) := by decide +kernel
theorem dX8_leastBowing_16 : decode cX8_leastBowing 16 = .ok (.if_icmp .ge 46, 3) := by decide +kernel
theorem dX8_leastBowing_19 : decode cX8_leastBowing 19 = .ok (.iload_n 1, 1) := by decide +kernel
theorem dX8_leastBowing_20 : decode cX8_leastBowing 20 = .ok (.iload_n 2, 1) := by decide +kernel
theorem dX8_leastBowing_21 : decode cX8_leastBowing 21 = .ok (.iadd, 1) := by decide +kernel
theorem dX8_leastBowing_22 : decode cX8_leastBowing 22 = .ok (.iconst 2, 1) := by decide +kernel
theorem dX8_leastBowing_23 : decode cX8_leastBowing 23 = .ok (.idiv, 1) := by decide +kernel
theorem dX8_leastBowing_24 : decode cX8_leastBowing 24 = .ok (.istore 4, 2) := by decide +kernel
theorem dX8_leastBowing_26 : decode cX8_leastBowing 26 = .ok (.iload 4, 2) := by decide +kernel
theorem dX8_leastBowing_28 : decode cX8_leastBowing 28 = .ok (.sipush 999, 3) := by decide +kernel
theorem dX8_leastBowing_31 : decode cX8_leastBowing 31 = .ok (.if_icmp .gt 14, 3) := by decide +kernel
theorem dX8_leastBowing_34 : decode cX8_leastBowing 34 = .ok (.aload_n 0, 1) := by decide +kernel
theorem dX8_leastBowing_35 : decode cX8_leastBowing 35 = .ok (.iload 4, 2) := by decide +kernel
theorem dX8_leastBowing_37 : decode cX8_leastBowing 37 = .ok (.invokevirtual 63, 3) := by decide +kernel
theorem dX8_leastBowing_40 : decode cX8_leastBowing 40 = .ok (.bipush 100, 2) := by decide +kernel
theorem dX8_leastBowing_42 : decode cX8_leastBowing 42 = .ok (.if_icmp .le 9, 3) := by decide +kernel
theorem dX8_leastBowing_45 : decode cX8_leastBowing 45 = .ok (.iload 4, 2) := by decide +kernel
theorem dX8_leastBowing_47 : decode cX8_leastBowing 47 = .ok (.istore_n 2, 1) := by decide +kernel
theorem dX8_leastBowing_48 : decode cX8_leastBowing 48 = .ok (.goto 8, 3) := by decide +kernel
theorem dX8_leastBowing_51 : decode cX8_leastBowing 51 = .ok (.iload 4, 2) := by decide +kernel
theorem dX8_leastBowing_53 : decode cX8_leastBowing 53 = .ok (.iconst 1, 1) := by decide +kernel
theorem dX8_leastBowing_54 : decode cX8_leastBowing 54 = .ok (.iadd, 1) := by decide +kernel
theorem dX8_leastBowing_55 : decode cX8_leastBowing 55 = .ok (.istore_n 1, 1) := by decide +kernel
theorem dX8_leastBowing_56 : decode cX8_leastBowing 56 = .ok (.iinc 3 1, 3) := by decide +kernel
theorem dX8_leastBowing_59 : decode cX8_leastBowing 59 = .ok (.goto (-51), 3) := by decide +kernel
theorem dX8_leastBowing_62 : decode cX8_leastBowing 62 = .ok (.iload_n 1, 1) := by decide +kernel
theorem dX8_leastBowing_63 : decode cX8_leastBowing 63 = .ok (.sipush 999, 3) := by decide +kernel
theorem dX8_leastBowing_66 : decode cX8_leastBowing 66 = .ok (.if_icmp .le 7, 3) := by decide +kernel
theorem dX8_leastBowing_69 : decode cX8_leastBowing 69 = .ok (.iconst (-1), 1) := by decide +kernel
theorem dX8_leastBowing_70 : decode cX8_leastBowing 70 = .ok (.goto 4, 3) := by decide +kernel
theorem dX8_leastBowing_73 : decode cX8_leastBowing 73 = .ok (.iload_n 1, 1) := by decide +kernel
theorem dX8_leastBowing_74 : decode cX8_leastBowing 74 = .ok (.ireturn, 1) := by decide +kernel
set_option maxRecDepth 20000 in
theorem ggX8_goingHour_X8_walk : GoodIn wsX8_goingHour wsX8_walk := goodIn_r _ [6, 7, 8, 9, 10, 11, 12, 13, 14, 15, 16, 17, 18, 19, 20, 21, 22, 23, 5, 24, 25, 26, 27, 28, 29, 30, 31, 32, 33, 34, 35, 36, 37, 38, 39, 40, 41, 42, 43, 44, 45, 51, 52, 53, 54, 55, 56, 46, 47, 48, 49, 50] (by decide +kernel) (by decide +kernel)
set_option maxRecDepth 20000 in
theorem gX8_goingHour_X8_walk : GoodIn wsX8_goingHour (wsV RX8 72 RX8 yX8_walk wsX8_walk) := goodIn_app (goodIn_of _ (by decide +kernel)) ggX8_goingHour_X8_walk
theorem dX8_goingHour_0 : decode cX8_goingHour 0 = .ok (.aload_n 0, 1) := by decide +kernel
theorem dX8_goingHour_1 : decode cX8_goingHour 1 = .ok (.aload_n 1, 1) := by decide +kernel
theorem dX8_goingHour_2 : decode cX8_goingHour 2 = .ok (.aload_n 1, 1) := by decide +kernel
theorem dX8_goingHour_3 : decode cX8_goingHour 3 = .ok (.getfield 67, 3) := by decide +kernel
theorem dX8_goingHour_6 : decode cX8_goingHour 6 = .ok (.iconst 1, 1) := by decide +kernel
theorem dX8_goingHour_7 : decode cX8_goingHour 7 = .ok (.invokevirtual 72, 3) := by decide +kernel
theorem dX8_goingHour_10 : decode cX8_goingHour 10 = .ok (.ireturn, 1) := by decide +kernel
set_option maxRecDepth 20000 in
theorem ggX8_wearBehind_X8_walk : GoodIn wsX8_wearBehind wsX8_walk := goodIn_r _ [6, 1, 7, 8, 9, 10, 11, 12, 13, 14, 15, 16, 17, 18, 19, 20, 21, 22, 5, 23, 24, 25, 26, 27, 28, 29, 30, 31, 32, 33, 34, 35, 36, 37, 38, 39, 40, 41, 42, 43, 44, 45, 46, 47, 48, 49, 50, 51, 52, 53, 54, 55] (by decide +kernel) (by decide +kernel)
set_option maxRecDepth 20000 in
theorem gX8_wearBehind_X8_walk : GoodIn wsX8_wearBehind (wsV RX8 72 RX8 yX8_walk wsX8_walk) := goodIn_app (goodIn_of _ (by decide +kernel)) ggX8_wearBehind_X8_walk
theorem dX8_wearBehind_0 : decode cX8_wearBehind 0 = .ok (.aload_n 0, 1) := by decide +kernel
theorem dX8_wearBehind_1 : decode cX8_wearBehind 1 = .ok (.aload_n 1, 1) := by decide +kernel
theorem dX8_wearBehind_2 : decode cX8_wearBehind 2 = .ok (.iload_n 2, 1) := by decide +kernel
theorem dX8_wearBehind_3 : decode cX8_wearBehind 3 = .ok (.iconst 1, 1) := by decide +kernel
theorem dX8_wearBehind_4 : decode cX8_wearBehind 4 = .ok (.iadd, 1) := by decide +kernel
theorem dX8_wearBehind_5 : decode cX8_wearBehind 5 = .ok (.iconst 0, 1) := by decide +kernel
theorem dX8_wearBehind_6 : decode cX8_wearBehind 6 = .ok (.invokevirtual 72, 3) := by decide +kernel
theorem dX8_wearBehind_9 : decode cX8_wearBehind 9 = .ok (.pop, 1) := by decide +kernel
theorem dX8_wearBehind_10 : decode cX8_wearBehind 10 = .ok (.aload_n 0, 1) := by decide +kernel
theorem dX8_wearBehind_11 : decode cX8_wearBehind 11 = .ok (.getfield 28, 3) := by decide +kernel
theorem dX8_wearBehind_14 : decode cX8_wearBehind 14 = .ok (.ireturn, 1) := by decide +kernel
set_option maxRecDepth 20000 in
theorem ggX8_walk_X1_evenOf : GoodIn wsX8_walk wsX1_evenOf := goodIn_r _ [13, 14, 47, 48, 49, 50, 51] (by decide +kernel) (by decide +kernel)
set_option maxRecDepth 20000 in
theorem gX8_walk_X1_evenOf : GoodIn wsX8_walk (wsV RX8 79 RX1 yX1_evenOf wsX1_evenOf) := goodIn_app (goodIn_of _ (by decide +kernel)) ggX8_walk_X1_evenOf
set_option maxRecDepth 20000 in
theorem ggX8_walk_X8_loadAt : GoodIn wsX8_walk wsX8_loadAt := goodIn_r _ [19, 20, 21, 22, 23, 6, 24, 25, 26, 27, 18, 28, 29, 30, 41, 42, 43, 44, 45, 46] (by decide +kernel) (by decide +kernel)
set_option maxRecDepth 20000 in
theorem gX8_walk_X8_loadAt : GoodIn wsX8_walk (wsV RX8 63 RX8 yX8_loadAt wsX8_loadAt) := goodIn_app (goodIn_of _ (by decide +kernel)) ggX8_walk_X8_loadAt
set_option maxRecDepth 20000 in
theorem ggX8_walk_X1_oddOf : GoodIn wsX8_walk wsX1_oddOf := goodIn_r _ [34, 35, 47, 48, 49, 50, 51] (by decide +kernel) (by decide +kernel)
set_option maxRecDepth 20000 in
theorem gX8_walk_X1_oddOf : GoodIn wsX8_walk (wsV RX8 82 RX1 yX1_oddOf wsX1_oddOf) := goodIn_app (goodIn_of _ (by decide +kernel)) ggX8_walk_X1_oddOf
set_option maxRecDepth 20000 in
theorem ggX8_walk_X1_manyOf : GoodIn wsX8_walk wsX1_manyOf := goodIn_r _ [39, 40, 47, 48, 49, 50, 51] (by decide +kernel) (by decide +kernel)
set_option maxRecDepth 20000 in
theorem gX8_walk_X1_manyOf : GoodIn wsX8_walk (wsV RX8 85 RX1 yX1_manyOf wsX1_manyOf) := goodIn_app (goodIn_of _ (by decide +kernel)) ggX8_walk_X1_manyOf
theorem dX8_walk_0 : decode cX8_walk 0 = .ok (.iconst 0, 1) := by decide +kernel
theorem dX8_walk_1 : decode cX8_walk 1 = .ok (.istore 4, 2) := by decide +kernel
theorem dX8_walk_3 : decode cX8_walk 3 = .ok (.iconst 0, 1) := by decide +kernel
theorem dX8_walk_4 : decode cX8_walk 4 = .ok (.istore 5, 2) := by decide +kernel
theorem dX8_walk_6 : decode cX8_walk 6 = .ok (.aload_n 0, 1) := by decide +kernel
theorem dX8_walk_7 : decode cX8_walk 7 = .ok (.iconst 0, 1) := by decide +kernel
theorem dX8_walk_8 : decode cX8_walk 8 = .ok (.putfield 28, 3) := by decide +kernel
theorem dX8_walk_11 : decode cX8_walk 11 = .ok (.aload_n 0, 1) := by decide +kernel
theorem dX8_walk_12 : decode cX8_walk 12 = .ok (.iconst (-1), 1) := by decide +kernel
theorem dX8_walk_13 : decode cX8_walk 13 = .ok (.putfield 15, 3) := by decide +kernel
theorem dX8_walk_16 : decode cX8_walk 16 = .ok (.iconst 0, 1) := by decide +kernel
theorem dX8_walk_17 : decode cX8_walk 17 = .ok (.istore 6, 2) := by decide +kernel
theorem dX8_walk_19 : decode cX8_walk 19 = .ok (.iload 6, 2) := by decide +kernel
theorem dX8_walk_21 : decode cX8_walk 21 = .ok (.aload_n 1, 1) := by decide +kernel
theorem dX8_walk_22 : decode cX8_walk 22 = .ok (.getfield 76, 3) := by decide +kernel
theorem dX8_walk_25 : decode cX8_walk 25 = .ok (.if_icmp .ge 180, 3) := by decide +kernel
theorem dX8_walk_28 : decode cX8_walk 28 = .ok (.aload_n 0, 1) := by decide +kernel
theorem dX8_walk_29 : decode cX8_walk 29 = .ok (.aload_n 1, 1) := by decide +kernel
theorem dX8_walk_30 : decode cX8_walk 30 = .ok (.iload 6, 2) := by decide +kernel
theorem dX8_walk_32 : decode cX8_walk 32 = .ok (.invokevirtual 79, 3) := by decide +kernel
theorem dX8_walk_35 : decode cX8_walk 35 = .ok (.invokevirtual 63, 3) := by decide +kernel
theorem dX8_walk_38 : decode cX8_walk 38 = .ok (.istore 7, 2) := by decide +kernel
theorem dX8_walk_40 : decode cX8_walk 40 = .ok (.aload_n 0, 1) := by decide +kernel
theorem dX8_walk_41 : decode cX8_walk 41 = .ok (.aload_n 1, 1) := by decide +kernel
theorem dX8_walk_42 : decode cX8_walk 42 = .ok (.iload 6, 2) := by decide +kernel
theorem dX8_walk_44 : decode cX8_walk 44 = .ok (.invokevirtual 82, 3) := by decide +kernel
theorem dX8_walk_47 : decode cX8_walk 47 = .ok (.invokevirtual 63, 3) := by decide +kernel
theorem dX8_walk_50 : decode cX8_walk 50 = .ok (.istore 8, 2) := by decide +kernel
theorem dX8_walk_52 : decode cX8_walk 52 = .ok (.aload_n 1, 1) := by decide +kernel
theorem dX8_walk_53 : decode cX8_walk 53 = .ok (.iload 6, 2) := by decide +kernel
theorem dX8_walk_55 : decode cX8_walk 55 = .ok (.invokevirtual 85, 3) := by decide +kernel
theorem dX8_walk_58 : decode cX8_walk 58 = .ok (.iload_n 2, 1) := by decide +kernel
theorem dX8_walk_59 : decode cX8_walk 59 = .ok (.iload 4, 2) := by decide +kernel
theorem dX8_walk_61 : decode cX8_walk 61 = .ok (.isub, 1) := by decide +kernel
theorem dX8_walk_62 : decode cX8_walk 62 = .ok (.invokestatic 88, 3) := by decide +kernel
theorem dX8_walk_65 : decode cX8_walk 65 = .ok (.istore 9, 2) := by decide +kernel
theorem dX8_walk_67 : decode cX8_walk 67 = .ok (.iconst 0, 1) := by decide +kernel
theorem dX8_walk_68 : decode cX8_walk 68 = .ok (.istore 10, 2) := by decide +kernel
theorem dX8_walk_70 : decode cX8_walk 70 = .ok (.iload 10, 2) := by decide +kernel
theorem dX8_walk_72 : decode cX8_walk 72 = .ok (.iload 9, 2) := by decide +kernel
theorem dX8_walk_74 : decode cX8_walk 74 = .ok (.if_icmp .ge 125, 3) := by decide +kernel
theorem dX8_walk_77 : decode cX8_walk 77 = .ok (.iload 10, 2) := by decide +kernel
theorem dX8_walk_79 : decode cX8_walk 79 = .ok (.iconst 2, 1) := by decide +kernel
theorem dX8_walk_80 : decode cX8_walk 80 = .ok (.irem, 1) := by decide +kernel
theorem dX8_walk_81 : decode cX8_walk 81 = .ok (.ifCond .ne 12, 3) := by decide +kernel
theorem dX8_walk_84 : decode cX8_walk 84 = .ok (.aload_n 1, 1) := by decide +kernel
theorem dX8_walk_85 : decode cX8_walk 85 = .ok (.iload 6, 2) := by decide +kernel
theorem dX8_walk_87 : decode cX8_walk 87 = .ok (.invokevirtual 79, 3) := by decide +kernel
theorem dX8_walk_90 : decode cX8_walk 90 = .ok (.goto 9, 3) := by decide +kernel
theorem dX8_walk_93 : decode cX8_walk 93 = .ok (.aload_n 1, 1) := by decide +kernel
theorem dX8_walk_94 : decode cX8_walk 94 = .ok (.iload 6, 2) := by decide +kernel
theorem dX8_walk_96 : decode cX8_walk 96 = .ok (.invokevirtual 82, 3) := by decide +kernel
theorem dX8_walk_99 : decode cX8_walk 99 = .ok (.istore 11, 2) := by decide +kernel
theorem dX8_walk_101 : decode cX8_walk 101 = .ok (.iload 10, 2) := by decide +kernel
theorem dX8_walk_103 : decode cX8_walk 103 = .ok (.iconst 2, 1) := by decide +kernel
theorem dX8_walk_104 : decode cX8_walk 104 = .ok (.irem, 1) := by decide +kernel
theorem dX8_walk_105 : decode cX8_walk 105 = .ok (.ifCond .ne 8, 3) := by decide +kernel
theorem dX8_walk_108 : decode cX8_walk 108 = .ok (.iload 7, 2) := by decide +kernel
theorem dX8_walk_110 : decode cX8_walk 110 = .ok (.goto 5, 3) := by decide +kernel
theorem dX8_walk_113 : decode cX8_walk 113 = .ok (.iload 8, 2) := by decide +kernel
theorem dX8_walk_115 : decode cX8_walk 115 = .ok (.istore 12, 2) := by decide +kernel
theorem dX8_walk_117 : decode cX8_walk 117 = .ok (.iload 11, 2) := by decide +kernel
theorem dX8_walk_119 : decode cX8_walk 119 = .ok (.iload 5, 2) := by decide +kernel
theorem dX8_walk_121 : decode cX8_walk 121 = .ok (.if_icmp .eq 24, 3) := by decide +kernel
theorem dX8_walk_124 : decode cX8_walk 124 = .ok (.iload 12, 2) := by decide +kernel
theorem dX8_walk_126 : decode cX8_walk 126 = .ok (.bipush 49, 2) := by decide +kernel
theorem dX8_walk_128 : decode cX8_walk 128 = .ok (.if_icmp .le 17, 3) := by decide +kernel
theorem dX8_walk_131 : decode cX8_walk 131 = .ok (.aload_n 0, 1) := by decide +kernel
theorem dX8_walk_132 : decode cX8_walk 132 = .ok (.dup, 1) := by decide +kernel
theorem dX8_walk_133 : decode cX8_walk 133 = .ok (.getfield 28, 3) := by decide +kernel
theorem dX8_walk_136 : decode cX8_walk 136 = .ok (.iload 12, 2) := by decide +kernel
theorem dX8_walk_138 : decode cX8_walk 138 = .ok (.bipush 49, 2) := by decide +kernel
theorem dX8_walk_140 : decode cX8_walk 140 = .ok (.isub, 1) := by decide +kernel
theorem dX8_walk_141 : decode cX8_walk 141 = .ok (.iadd, 1) := by decide +kernel
theorem dX8_walk_142 : decode cX8_walk 142 = .ok (.putfield 28, 3) := by decide +kernel
theorem dX8_walk_145 : decode cX8_walk 145 = .ok (.iload_n 3, 1) := by decide +kernel
theorem dX8_walk_146 : decode cX8_walk 146 = .ok (.ifCond .eq 40, 3) := by decide +kernel
theorem dX8_walk_149 : decode cX8_walk 149 = .ok (.iload 12, 2) := by decide +kernel
theorem dX8_walk_151 : decode cX8_walk 151 = .ok (.bipush 100, 2) := by decide +kernel
theorem dX8_walk_153 : decode cX8_walk 153 = .ok (.if_icmp .gt 14, 3) := by decide +kernel
theorem dX8_walk_156 : decode cX8_walk 156 = .ok (.aload_n 0, 1) := by decide +kernel
theorem dX8_walk_157 : decode cX8_walk 157 = .ok (.getfield 28, 3) := by decide +kernel
theorem dX8_walk_160 : decode cX8_walk 160 = .ok (.aload_n 0, 1) := by decide +kernel
theorem dX8_walk_161 : decode cX8_walk 161 = .ok (.getfield 25, 3) := by decide +kernel
theorem dX8_walk_164 : decode cX8_walk 164 = .ok (.if_icmp .lt 22, 3) := by decide +kernel
theorem dX8_walk_167 : decode cX8_walk 167 = .ok (.aload_n 0, 1) := by decide +kernel
theorem dX8_walk_168 : decode cX8_walk 168 = .ok (.iload 12, 2) := by decide +kernel
theorem dX8_walk_170 : decode cX8_walk 170 = .ok (.bipush 100, 2) := by decide +kernel
theorem dX8_walk_172 : decode cX8_walk 172 = .ok (.if_icmp .le 7, 3) := by decide +kernel
theorem dX8_walk_175 : decode cX8_walk 175 = .ok (.iconst 0, 1) := by decide +kernel
theorem dX8_walk_176 : decode cX8_walk 176 = .ok (.goto 4, 3) := by decide +kernel
theorem dX8_walk_179 : decode cX8_walk 179 = .ok (.iconst 1, 1) := by decide +kernel
theorem dX8_walk_180 : decode cX8_walk 180 = .ok (.putfield 15, 3) := by decide +kernel
theorem dX8_walk_183 : decode cX8_walk 183 = .ok (.iload 4, 2) := by decide +kernel
theorem dX8_walk_185 : decode cX8_walk 185 = .ok (.ireturn, 1) := by decide +kernel
theorem dX8_walk_186 : decode cX8_walk 186 = .ok (.iload 11, 2) := by decide +kernel
theorem dX8_walk_188 : decode cX8_walk 188 = .ok (.istore 5, 2) := by decide +kernel
theorem dX8_walk_190 : decode cX8_walk 190 = .ok (.iinc 4 1, 3) := by decide +kernel
theorem dX8_walk_193 : decode cX8_walk 193 = .ok (.iinc 10 1, 3) := by decide +kernel
theorem dX8_walk_196 : decode cX8_walk 196 = .ok (.goto (-126), 3) := by decide +kernel
theorem dX8_walk_199 : decode cX8_walk 199 = .ok (.iinc 6 1, 3) := by decide +kernel
theorem dX8_walk_202 : decode cX8_walk 202 = .ok (.goto (-183), 3) := by decide +kernel
theorem dX8_walk_205 : decode cX8_walk 205 = .ok (.iconst (-1), 1) := by decide +kernel
theorem dX8_walk_206 : decode cX8_walk 206 = .ok (.ireturn, 1) := by decide +kernel
theorem dX9_init_0 : decode cX9_init 0 = .ok (.aload_n 0, 1) := by decide +kernel
theorem dX9_init_1 : decode cX9_init 1 = .ok (.invokespecial 3, 3) := by decide +kernel
theorem dX9_init_4 : decode cX9_init 4 = .ok (.aload_n 0, 1) := by decide +kernel
theorem dX9_init_5 : decode cX9_init 5 = .ok (.sipush 1600, 3) := by decide +kernel
theorem dX9_init_8 : decode cX9_init 8 = .ok (.newarray .byte, 2) := by decide +kernel
theorem dX9_init_10 : decode cX9_init 10 = .ok (.putfield 9, 3) := by decide +kernel
theorem dX9_init_13 : decode cX9_init 13 = .ok (.aload_n 0, 1) := by decide +kernel
theorem dX9_init_14 : decode cX9_init 14 = .ok (.iconst 0, 1) := by decide +kernel
theorem dX9_init_15 : decode cX9_init 15 = .ok (.putfield 15, 3) := by decide +kernel
theorem dX9_init_18 : decode cX9_init 18 = .ok (.aload_n 0, 1) := by decide +kernel
theorem dX9_init_19 : decode cX9_init 19 = .ok (.iconst 0, 1) := by decide +kernel
theorem dX9_init_20 : decode cX9_init 20 = .ok (.putfield 19, 3) := by decide +kernel
theorem dX9_init_23 : decode cX9_init 23 = .ok (.aload_n 0, 1) := by decide +kernel
theorem dX9_init_24 : decode cX9_init 24 = .ok (.iconst 0, 1) := by decide +kernel
theorem dX9_init_25 : decode cX9_init 25 = .ok (.putfield 22, 3) := by decide +kernel
theorem dX9_init_28 : decode cX9_init 28 = .ok (.aload_n 0, 1) := by decide +kernel
theorem dX9_init_29 : decode cX9_init 29 = .ok (.iconst (-1), 1) := by decide +kernel
theorem dX9_init_30 : decode cX9_init 30 = .ok (.putfield 25, 3) := by decide +kernel
theorem dX9_init_33 : decode cX9_init 33 = .ok (.aload_n 0, 1) := by decide +kernel
theorem dX9_init_34 : decode cX9_init 34 = .ok (.iconst 0, 1) := by decide +kernel
theorem dX9_init_35 : decode cX9_init 35 = .ok (.putfield 28, 3) := by decide +kernel
theorem dX9_init_38 : decode cX9_init 38 = .ok (.aload_n 0, 1) := by decide +kernel
theorem dX9_init_39 : decode cX9_init 39 = .ok (.iconst 0, 1) := by decide +kernel
theorem dX9_init_40 : decode cX9_init 40 = .ok (.putfield 31, 3) := by decide +kernel
theorem dX9_init_43 : decode cX9_init 43 = .ok (.aload_n 0, 1) := by decide +kernel
theorem dX9_init_44 : decode cX9_init 44 = .ok (.iconst 0, 1) := by decide +kernel
theorem dX9_init_45 : decode cX9_init 45 = .ok (.putfield 34, 3) := by decide +kernel
theorem dX9_init_48 : decode cX9_init 48 = .ok (.return_, 1) := by decide +kernel
theorem dX9_hasSpace_0 : decode cX9_hasSpace 0 = .ok (.aload_n 0, 1) := by decide +kernel
theorem dX9_hasSpace_1 : decode cX9_hasSpace 1 = .ok (.getfield 15, 3) := by decide +kernel
theorem dX9_hasSpace_4 : decode cX9_hasSpace 4 = .ok (.iload_n 1, 1) := by decide +kernel
theorem dX9_hasSpace_5 : decode cX9_hasSpace 5 = .ok (.iadd, 1) := by decide +kernel
theorem dX9_hasSpace_6 : decode cX9_hasSpace 6 = .ok (.aload_n 0, 1) := by decide +kernel
theorem dX9_hasSpace_7 : decode cX9_hasSpace 7 = .ok (.getfield 9, 3) := by decide +kernel
theorem dX9_hasSpace_10 : decode cX9_hasSpace 10 = .ok (.arraylength, 1) := by decide +kernel
theorem dX9_hasSpace_11 : decode cX9_hasSpace 11 = .ok (.if_icmp .gt 7, 3) := by decide +kernel
theorem dX9_hasSpace_14 : decode cX9_hasSpace 14 = .ok (.iconst 1, 1) := by decide +kernel
theorem dX9_hasSpace_15 : decode cX9_hasSpace 15 = .ok (.goto 4, 3) := by decide +kernel
theorem dX9_hasSpace_18 : decode cX9_hasSpace 18 = .ok (.iconst 0, 1) := by decide +kernel
theorem dX9_hasSpace_19 : decode cX9_hasSpace 19 = .ok (.ireturn, 1) := by decide +kernel
theorem dX9_put_0 : decode cX9_put 0 = .ok (.bipush 24, 2) := by decide +kernel
theorem dX9_put_2 : decode cX9_put 2 = .ok (.istore_n 2, 1) := by decide +kernel
theorem dX9_put_3 : decode cX9_put 3 = .ok (.iload_n 2, 1) := by decide +kernel
theorem dX9_put_4 : decode cX9_put 4 = .ok (.ifCond .lt 44, 3) := by decide +kernel
theorem dX9_put_7 : decode cX9_put 7 = .ok (.aload_n 0, 1) := by decide +kernel
theorem dX9_put_8 : decode cX9_put 8 = .ok (.getfield 15, 3) := by decide +kernel
theorem dX9_put_11 : decode cX9_put 11 = .ok (.aload_n 0, 1) := by decide +kernel
theorem dX9_put_12 : decode cX9_put 12 = .ok (.getfield 9, 3) := by decide +kernel
theorem dX9_put_15 : decode cX9_put 15 = .ok (.arraylength, 1) := by decide +kernel
theorem dX9_put_16 : decode cX9_put 16 = .ok (.if_icmp .ge 32, 3) := by decide +kernel
theorem dX9_put_19 : decode cX9_put 19 = .ok (.aload_n 0, 1) := by decide +kernel
theorem dX9_put_20 : decode cX9_put 20 = .ok (.getfield 9, 3) := by decide +kernel
theorem dX9_put_23 : decode cX9_put 23 = .ok (.aload_n 0, 1) := by decide +kernel
theorem dX9_put_24 : decode cX9_put 24 = .ok (.getfield 15, 3) := by decide +kernel
theorem dX9_put_27 : decode cX9_put 27 = .ok (.iload_n 1, 1) := by decide +kernel
theorem dX9_put_28 : decode cX9_put 28 = .ok (.iload_n 2, 1) := by decide +kernel
theorem dX9_put_29 : decode cX9_put 29 = .ok (.ishr, 1) := by decide +kernel
theorem dX9_put_30 : decode cX9_put 30 = .ok (.i2b, 1) := by decide +kernel
theorem dX9_put_31 : decode cX9_put 31 = .ok (.bastore, 1) := by decide +kernel
theorem dX9_put_32 : decode cX9_put 32 = .ok (.aload_n 0, 1) := by decide +kernel
theorem dX9_put_33 : decode cX9_put 33 = .ok (.dup, 1) := by decide +kernel
theorem dX9_put_34 : decode cX9_put 34 = .ok (.getfield 15, 3) := by decide +kernel
theorem dX9_put_37 : decode cX9_put 37 = .ok (.iconst 1, 1) := by decide +kernel
theorem dX9_put_38 : decode cX9_put 38 = .ok (.iadd, 1) := by decide +kernel
theorem dX9_put_39 : decode cX9_put 39 = .ok (.putfield 15, 3) := by decide +kernel
theorem dX9_put_42 : decode cX9_put 42 = .ok (.iinc 2 (-8), 3) := by decide +kernel
theorem dX9_put_45 : decode cX9_put 45 = .ok (.goto (-42), 3) := by decide +kernel
theorem dX9_put_48 : decode cX9_put 48 = .ok (.return_, 1) := by decide +kernel
set_option maxRecDepth 20000 in
theorem ggX9_begin_X9_step : GoodIn wsX9_begin wsX9_step := goodIn_r _ [8, 1, 9, 10, 11, 12, 13, 14, 15, 16, 17, 18, 19, 20, 21, 22] (by decide +kernel) (by decide +kernel)
set_option maxRecDepth 20000 in
theorem gX9_begin_X9_step : GoodIn wsX9_begin (wsV RX9 37 RX9 yX9_step wsX9_step) := goodIn_app (goodIn_of _ (by decide +kernel)) ggX9_begin_X9_step
theorem dX9_begin_0 : decode cX9_begin 0 = .ok (.aload_n 0, 1) := by decide +kernel
theorem dX9_begin_1 : decode cX9_begin 1 = .ok (.iconst 0, 1) := by decide +kernel
theorem dX9_begin_2 : decode cX9_begin 2 = .ok (.putfield 31, 3) := by decide +kernel
theorem dX9_begin_5 : decode cX9_begin 5 = .ok (.aload_n 0, 1) := by decide +kernel
theorem dX9_begin_6 : decode cX9_begin 6 = .ok (.iconst 0, 1) := by decide +kernel
theorem dX9_begin_7 : decode cX9_begin 7 = .ok (.putfield 22, 3) := by decide +kernel
theorem dX9_begin_10 : decode cX9_begin 10 = .ok (.aload_n 0, 1) := by decide +kernel
theorem dX9_begin_11 : decode cX9_begin 11 = .ok (.iconst (-1), 1) := by decide +kernel
theorem dX9_begin_12 : decode cX9_begin 12 = .ok (.putfield 25, 3) := by decide +kernel
theorem dX9_begin_15 : decode cX9_begin 15 = .ok (.aload_n 0, 1) := by decide +kernel
theorem dX9_begin_16 : decode cX9_begin 16 = .ok (.invokevirtual 37, 3) := by decide +kernel
theorem dX9_begin_19 : decode cX9_begin 19 = .ok (.return_, 1) := by decide +kernel
theorem dX9_step_0 : decode cX9_step 0 = .ok (.aload_n 0, 1) := by decide +kernel
theorem dX9_step_1 : decode cX9_step 1 = .ok (.getfield 31, 3) := by decide +kernel
theorem dX9_step_4 : decode cX9_step 4 = .ok (.istore_n 1, 1) := by decide +kernel
theorem dX9_step_5 : decode cX9_step 5 = .ok (.iload_n 1, 1) := by decide +kernel
theorem dX9_step_6 : decode cX9_step 6 = .ok (.aload_n 0, 1) := by decide +kernel
theorem dX9_step_7 : decode cX9_step 7 = .ok (.getfield 15, 3) := by decide +kernel
theorem dX9_step_10 : decode cX9_step 10 = .ok (.if_icmp .ge 31, 3) := by decide +kernel
theorem dX9_step_13 : decode cX9_step 13 = .ok (.aload_n 0, 1) := by decide +kernel
theorem dX9_step_14 : decode cX9_step 14 = .ok (.getfield 9, 3) := by decide +kernel
theorem dX9_step_17 : decode cX9_step 17 = .ok (.iload_n 1, 1) := by decide +kernel
theorem dX9_step_18 : decode cX9_step 18 = .ok (.baload, 1) := by decide +kernel
theorem dX9_step_19 : decode cX9_step 19 = .ok (.bipush 32, 2) := by decide +kernel
theorem dX9_step_21 : decode cX9_step 21 = .ok (.if_icmp .eq 14, 3) := by decide +kernel
theorem dX9_step_24 : decode cX9_step 24 = .ok (.aload_n 0, 1) := by decide +kernel
theorem dX9_step_25 : decode cX9_step 25 = .ok (.getfield 9, 3) := by decide +kernel
theorem dX9_step_28 : decode cX9_step 28 = .ok (.iload_n 1, 1) := by decide +kernel
theorem dX9_step_29 : decode cX9_step 29 = .ok (.baload, 1) := by decide +kernel
theorem dX9_step_30 : decode cX9_step 30 = .ok (.bipush 10, 2) := by decide +kernel
theorem dX9_step_32 : decode cX9_step 32 = .ok (.if_icmp .ne 9, 3) := by decide +kernel
theorem dX9_step_35 : decode cX9_step 35 = .ok (.iinc 1 1, 3) := by decide +kernel
theorem dX9_step_38 : decode cX9_step 38 = .ok (.goto (-33), 3) := by decide +kernel
theorem dX9_step_41 : decode cX9_step 41 = .ok (.aload_n 0, 1) := by decide +kernel
theorem dX9_step_42 : decode cX9_step 42 = .ok (.iload_n 1, 1) := by decide +kernel
theorem dX9_step_43 : decode cX9_step 43 = .ok (.putfield 28, 3) := by decide +kernel
theorem dX9_step_46 : decode cX9_step 46 = .ok (.aload_n 0, 1) := by decide +kernel
theorem dX9_step_47 : decode cX9_step 47 = .ok (.iconst 0, 1) := by decide +kernel
theorem dX9_step_48 : decode cX9_step 48 = .ok (.putfield 34, 3) := by decide +kernel
theorem dX9_step_51 : decode cX9_step 51 = .ok (.iload_n 1, 1) := by decide +kernel
theorem dX9_step_52 : decode cX9_step 52 = .ok (.aload_n 0, 1) := by decide +kernel
theorem dX9_step_53 : decode cX9_step 53 = .ok (.getfield 15, 3) := by decide +kernel
theorem dX9_step_56 : decode cX9_step 56 = .ok (.if_icmp .ge 31, 3) := by decide +kernel
theorem dX9_step_59 : decode cX9_step 59 = .ok (.aload_n 0, 1) := by decide +kernel
theorem dX9_step_60 : decode cX9_step 60 = .ok (.getfield 9, 3) := by decide +kernel
theorem dX9_step_63 : decode cX9_step 63 = .ok (.iload_n 1, 1) := by decide +kernel
theorem dX9_step_64 : decode cX9_step 64 = .ok (.baload, 1) := by decide +kernel
theorem dX9_step_65 : decode cX9_step 65 = .ok (.bipush 97, 2) := by decide +kernel
theorem dX9_step_67 : decode cX9_step 67 = .ok (.if_icmp .lt 20, 3) := by decide +kernel
theorem dX9_step_70 : decode cX9_step 70 = .ok (.aload_n 0, 1) := by decide +kernel
theorem dX9_step_71 : decode cX9_step 71 = .ok (.getfield 9, 3) := by decide +kernel
theorem dX9_step_74 : decode cX9_step 74 = .ok (.iload_n 1, 1) := by decide +kernel
theorem dX9_step_75 : decode cX9_step 75 = .ok (.baload, 1) := by decide +kernel
theorem dX9_step_76 : decode cX9_step 76 = .ok (.bipush 122, 2) := by decide +kernel
theorem dX9_step_78 : decode cX9_step 78 = .ok (.if_icmp .gt 9, 3) := by decide +kernel
theorem dX9_step_81 : decode cX9_step 81 = .ok (.iinc 1 1, 3) := by decide +kernel
theorem dX9_step_84 : decode cX9_step 84 = .ok (.goto (-33), 3) := by decide +kernel
theorem dX9_step_87 : decode cX9_step 87 = .ok (.aload_n 0, 1) := by decide +kernel
theorem dX9_step_88 : decode cX9_step 88 = .ok (.iload_n 1, 1) := by decide +kernel
theorem dX9_step_89 : decode cX9_step 89 = .ok (.putfield 31, 3) := by decide +kernel
theorem dX9_step_92 : decode cX9_step 92 = .ok (.iload_n 1, 1) := by decide +kernel
theorem dX9_step_93 : decode cX9_step 93 = .ok (.aload_n 0, 1) := by decide +kernel
theorem dX9_step_94 : decode cX9_step 94 = .ok (.getfield 28, 3) := by decide +kernel
theorem dX9_step_97 : decode cX9_step 97 = .ok (.if_icmp .le 9, 3) := by decide +kernel
theorem dX9_step_100 : decode cX9_step 100 = .ok (.aload_n 0, 1) := by decide +kernel
theorem dX9_step_101 : decode cX9_step 101 = .ok (.iconst 1, 1) := by decide +kernel
theorem dX9_step_102 : decode cX9_step 102 = .ok (.putfield 19, 3) := by decide +kernel
theorem dX9_step_105 : decode cX9_step 105 = .ok (.return_, 1) := by decide +kernel
theorem dX9_step_106 : decode cX9_step 106 = .ok (.iload_n 1, 1) := by decide +kernel
theorem dX9_step_107 : decode cX9_step 107 = .ok (.aload_n 0, 1) := by decide +kernel
theorem dX9_step_108 : decode cX9_step 108 = .ok (.getfield 15, 3) := by decide +kernel
theorem dX9_step_111 : decode cX9_step 111 = .ok (.if_icmp .ge 68, 3) := by decide +kernel
theorem dX9_step_114 : decode cX9_step 114 = .ok (.aload_n 0, 1) := by decide +kernel
theorem dX9_step_115 : decode cX9_step 115 = .ok (.getfield 9, 3) := by decide +kernel
theorem dX9_step_118 : decode cX9_step 118 = .ok (.iload_n 1, 1) := by decide +kernel
theorem dX9_step_119 : decode cX9_step 119 = .ok (.baload, 1) := by decide +kernel
theorem dX9_step_120 : decode cX9_step 120 = .ok (.bipush 48, 2) := by decide +kernel
theorem dX9_step_122 : decode cX9_step 122 = .ok (.if_icmp .lt 57, 3) := by decide +kernel
theorem dX9_step_125 : decode cX9_step 125 = .ok (.aload_n 0, 1) := by decide +kernel
theorem dX9_step_126 : decode cX9_step 126 = .ok (.getfield 9, 3) := by decide +kernel
theorem dX9_step_129 : decode cX9_step 129 = .ok (.iload_n 1, 1) := by decide +kernel
theorem dX9_step_130 : decode cX9_step 130 = .ok (.baload, 1) := by decide +kernel
theorem dX9_step_131 : decode cX9_step 131 = .ok (.bipush 57, 2) := by decide +kernel
theorem dX9_step_133 : decode cX9_step 133 = .ok (.if_icmp .gt 46, 3) := by decide +kernel
theorem dX9_step_136 : decode cX9_step 136 = .ok (.aload_n 0, 1) := by decide +kernel
theorem dX9_step_137 : decode cX9_step 137 = .ok (.aload_n 0, 1) := by decide +kernel
theorem dX9_step_138 : decode cX9_step 138 = .ok (.getfield 34, 3) := by decide +kernel
theorem dX9_step_141 : decode cX9_step 141 = .ok (.ldc 40, 2) := by decide +kernel
theorem dX9_step_143 : decode cX9_step 143 = .ok (.if_icmp .ge 23, 3) := by decide +kernel
theorem dX9_step_146 : decode cX9_step 146 = .ok (.aload_n 0, 1) := by decide +kernel
theorem dX9_step_147 : decode cX9_step 147 = .ok (.getfield 34, 3) := by decide +kernel
theorem dX9_step_150 : decode cX9_step 150 = .ok (.bipush 10, 2) := by decide +kernel
theorem dX9_step_152 : decode cX9_step 152 = .ok (.imul, 1) := by decide +kernel
theorem dX9_step_153 : decode cX9_step 153 = .ok (.aload_n 0, 1) := by decide +kernel
theorem dX9_step_154 : decode cX9_step 154 = .ok (.getfield 9, 3) := by decide +kernel
theorem dX9_step_157 : decode cX9_step 157 = .ok (.iload_n 1, 1) := by decide +kernel
theorem dX9_step_158 : decode cX9_step 158 = .ok (.baload, 1) := by decide +kernel
theorem dX9_step_159 : decode cX9_step 159 = .ok (.iadd, 1) := by decide +kernel
theorem dX9_step_160 : decode cX9_step 160 = .ok (.bipush 48, 2) := by decide +kernel
theorem dX9_step_162 : decode cX9_step 162 = .ok (.isub, 1) := by decide +kernel
theorem dX9_step_163 : decode cX9_step 163 = .ok (.goto 7, 3) := by decide +kernel
theorem dX9_step_166 : decode cX9_step 166 = .ok (.aload_n 0, 1) := by decide +kernel
theorem dX9_step_167 : decode cX9_step 167 = .ok (.getfield 34, 3) := by decide +kernel
theorem dX9_step_170 : decode cX9_step 170 = .ok (.putfield 34, 3) := by decide +kernel
theorem dX9_step_173 : decode cX9_step 173 = .ok (.iinc 1 1, 3) := by decide +kernel
theorem dX9_step_176 : decode cX9_step 176 = .ok (.goto (-70), 3) := by decide +kernel
theorem dX9_step_179 : decode cX9_step 179 = .ok (.aload_n 0, 1) := by decide +kernel
theorem dX9_step_180 : decode cX9_step 180 = .ok (.iload_n 1, 1) := by decide +kernel
theorem dX9_step_181 : decode cX9_step 181 = .ok (.putfield 31, 3) := by decide +kernel
theorem dX9_step_184 : decode cX9_step 184 = .ok (.iload_n 1, 1) := by decide +kernel
theorem dX9_step_185 : decode cX9_step 185 = .ok (.aload_n 0, 1) := by decide +kernel
theorem dX9_step_186 : decode cX9_step 186 = .ok (.getfield 28, 3) := by decide +kernel
theorem dX9_step_189 : decode cX9_step 189 = .ok (.if_icmp .le 11, 3) := by decide +kernel
theorem dX9_step_192 : decode cX9_step 192 = .ok (.aload_n 0, 1) := by decide +kernel
theorem dX9_step_193 : decode cX9_step 193 = .ok (.iconst 2, 1) := by decide +kernel
theorem dX9_step_194 : decode cX9_step 194 = .ok (.putfield 19, 3) := by decide +kernel
theorem dX9_step_197 : decode cX9_step 197 = .ok (.goto 46, 3) := by decide +kernel
theorem dX9_step_200 : decode cX9_step 200 = .ok (.iload_n 1, 1) := by decide +kernel
theorem dX9_step_201 : decode cX9_step 201 = .ok (.aload_n 0, 1) := by decide +kernel
theorem dX9_step_202 : decode cX9_step 202 = .ok (.getfield 15, 3) := by decide +kernel
theorem dX9_step_205 : decode cX9_step 205 = .ok (.if_icmp .lt 11, 3) := by decide +kernel
theorem dX9_step_208 : decode cX9_step 208 = .ok (.aload_n 0, 1) := by decide +kernel
theorem dX9_step_209 : decode cX9_step 209 = .ok (.iconst 0, 1) := by decide +kernel
theorem dX9_step_210 : decode cX9_step 210 = .ok (.putfield 19, 3) := by decide +kernel
theorem dX9_step_213 : decode cX9_step 213 = .ok (.goto 30, 3) := by decide +kernel
theorem dX9_step_216 : decode cX9_step 216 = .ok (.aload_n 0, 1) := by decide +kernel
theorem dX9_step_217 : decode cX9_step 217 = .ok (.aload_n 0, 1) := by decide +kernel
theorem dX9_step_218 : decode cX9_step 218 = .ok (.getfield 9, 3) := by decide +kernel
theorem dX9_step_221 : decode cX9_step 221 = .ok (.iload_n 1, 1) := by decide +kernel
theorem dX9_step_222 : decode cX9_step 222 = .ok (.baload, 1) := by decide +kernel
theorem dX9_step_223 : decode cX9_step 223 = .ok (.bipush 59, 2) := by decide +kernel
theorem dX9_step_225 : decode cX9_step 225 = .ok (.if_icmp .ne 7, 3) := by decide +kernel
theorem dX9_step_228 : decode cX9_step 228 = .ok (.iconst 3, 1) := by decide +kernel
theorem dX9_step_229 : decode cX9_step 229 = .ok (.goto 4, 3) := by decide +kernel
theorem dX9_step_232 : decode cX9_step 232 = .ok (.iconst 4, 1) := by decide +kernel
theorem dX9_step_233 : decode cX9_step 233 = .ok (.putfield 19, 3) := by decide +kernel
theorem dX9_step_236 : decode cX9_step 236 = .ok (.aload_n 0, 1) := by decide +kernel
theorem dX9_step_237 : decode cX9_step 237 = .ok (.iload_n 1, 1) := by decide +kernel
theorem dX9_step_238 : decode cX9_step 238 = .ok (.iconst 1, 1) := by decide +kernel
theorem dX9_step_239 : decode cX9_step 239 = .ok (.iadd, 1) := by decide +kernel
theorem dX9_step_240 : decode cX9_step 240 = .ok (.putfield 31, 3) := by decide +kernel
theorem dX9_step_243 : decode cX9_step 243 = .ok (.return_, 1) := by decide +kernel
theorem dX9_fail_0 : decode cX9_fail 0 = .ok (.aload_n 0, 1) := by decide +kernel
theorem dX9_fail_1 : decode cX9_fail 1 = .ok (.getfield 22, 3) := by decide +kernel
theorem dX9_fail_4 : decode cX9_fail 4 = .ok (.ifCond .ne 16, 3) := by decide +kernel
theorem dX9_fail_7 : decode cX9_fail 7 = .ok (.aload_n 0, 1) := by decide +kernel
theorem dX9_fail_8 : decode cX9_fail 8 = .ok (.iload_n 1, 1) := by decide +kernel
theorem dX9_fail_9 : decode cX9_fail 9 = .ok (.putfield 22, 3) := by decide +kernel
theorem dX9_fail_12 : decode cX9_fail 12 = .ok (.aload_n 0, 1) := by decide +kernel
theorem dX9_fail_13 : decode cX9_fail 13 = .ok (.aload_n 0, 1) := by decide +kernel
theorem dX9_fail_14 : decode cX9_fail 14 = .ok (.getfield 28, 3) := by decide +kernel
theorem dX9_fail_17 : decode cX9_fail 17 = .ok (.putfield 25, 3) := by decide +kernel
theorem dX9_fail_20 : decode cX9_fail 20 = .ok (.return_, 1) := by decide +kernel
theorem dX9_goesOn_0 : decode cX9_goesOn 0 = .ok (.aload_n 0, 1) := by decide +kernel
theorem dX9_goesOn_1 : decode cX9_goesOn 1 = .ok (.getfield 22, 3) := by decide +kernel
theorem dX9_goesOn_4 : decode cX9_goesOn 4 = .ok (.ifCond .ne 14, 3) := by decide +kernel
theorem dX9_goesOn_7 : decode cX9_goesOn 7 = .ok (.aload_n 0, 1) := by decide +kernel
theorem dX9_goesOn_8 : decode cX9_goesOn 8 = .ok (.getfield 19, 3) := by decide +kernel
theorem dX9_goesOn_11 : decode cX9_goesOn 11 = .ok (.ifCond .eq 7, 3) := by decide +kernel
theorem dX9_goesOn_14 : decode cX9_goesOn 14 = .ok (.iconst 1, 1) := by decide +kernel
theorem dX9_goesOn_15 : decode cX9_goesOn 15 = .ok (.goto 4, 3) := by decide +kernel
theorem dX9_goesOn_18 : decode cX9_goesOn 18 = .ok (.iconst 0, 1) := by decide +kernel
theorem dX9_goesOn_19 : decode cX9_goesOn 19 = .ok (.ireturn, 1) := by decide +kernel
set_option maxRecDepth 20000 in
theorem ggX9_isAt_J0_length_8abf5 : GoodIn wsX9_isAt wsJ0_length_8abf5 := goodIn_r _ [11, 12, 13, 14, 15, 10, 16, 17, 18] (by decide +kernel) (by decide +kernel)
set_option maxRecDepth 20000 in
theorem gX9_isAt_J0_length_8abf5 : GoodIn wsX9_isAt (wsV RX9 41 RJ0 yJ0_length_8abf5 wsJ0_length_8abf5) := goodIn_app (goodIn_of _ (by decide +kernel)) ggX9_isAt_J0_length_8abf5
set_option maxRecDepth 20000 in
theorem ggX9_isAt_J0_charAt_5068e : GoodIn wsX9_isAt wsJ0_charAt_5068e := goodIn_r _ [22, 12, 23, 24, 25, 10, 26, 17, 18, 27, 28, 29, 30, 31, 32, 33, 34, 35, 36, 37, 38, 39, 40, 41, 42, 43, 44, 45, 46, 47, 48, 49, 50, 51, 52, 53, 54, 55] (by decide +kernel) (by decide +kernel)
set_option maxRecDepth 20000 in
theorem gX9_isAt_J0_charAt_5068e : GoodIn wsX9_isAt (wsV RX9 47 RJ0 yJ0_charAt_5068e wsJ0_charAt_5068e) := goodIn_app (goodIn_of _ (by decide +kernel)) ggX9_isAt_J0_charAt_5068e
theorem dX9_isAt_0 : decode cX9_isAt 0 = .ok (.aload_n 0, 1) := by decide +kernel
theorem dX9_isAt_1 : decode cX9_isAt 1 = .ok (.getfield 22, 3) := by decide +kernel
theorem dX9_isAt_4 : decode cX9_isAt 4 = .ok (.ifCond .ne 27, 3) := by decide +kernel
theorem dX9_isAt_7 : decode cX9_isAt 7 = .ok (.aload_n 0, 1) := by decide +kernel
theorem dX9_isAt_8 : decode cX9_isAt 8 = .ok (.getfield 19, 3) := by decide +kernel
theorem dX9_isAt_11 : decode cX9_isAt 11 = .ok (.iconst 1, 1) := by decide +kernel
theorem dX9_isAt_12 : decode cX9_isAt 12 = .ok (.if_icmp .ne 19, 3) := by decide +kernel
theorem dX9_isAt_15 : decode cX9_isAt 15 = .ok (.aload_n 0, 1) := by decide +kernel
theorem dX9_isAt_16 : decode cX9_isAt 16 = .ok (.getfield 31, 3) := by decide +kernel
theorem dX9_isAt_19 : decode cX9_isAt 19 = .ok (.aload_n 0, 1) := by decide +kernel
theorem dX9_isAt_20 : decode cX9_isAt 20 = .ok (.getfield 28, 3) := by decide +kernel
theorem dX9_isAt_23 : decode cX9_isAt 23 = .ok (.isub, 1) := by decide +kernel
theorem dX9_isAt_24 : decode cX9_isAt 24 = .ok (.aload_n 1, 1) := by decide +kernel
theorem dX9_isAt_25 : decode cX9_isAt 25 = .ok (.invokevirtual 41, 3) := by decide +kernel
theorem dX9_isAt_28 : decode cX9_isAt 28 = .ok (.if_icmp .eq 5, 3) := by decide +kernel
theorem dX9_isAt_31 : decode cX9_isAt 31 = .ok (.iconst 0, 1) := by decide +kernel
theorem dX9_isAt_32 : decode cX9_isAt 32 = .ok (.ireturn, 1) := by decide +kernel
theorem dX9_isAt_33 : decode cX9_isAt 33 = .ok (.iconst 0, 1) := by decide +kernel
theorem dX9_isAt_34 : decode cX9_isAt 34 = .ok (.istore_n 2, 1) := by decide +kernel
theorem dX9_isAt_35 : decode cX9_isAt 35 = .ok (.iload_n 2, 1) := by decide +kernel
theorem dX9_isAt_36 : decode cX9_isAt 36 = .ok (.aload_n 1, 1) := by decide +kernel
theorem dX9_isAt_37 : decode cX9_isAt 37 = .ok (.invokevirtual 41, 3) := by decide +kernel
theorem dX9_isAt_40 : decode cX9_isAt 40 = .ok (.if_icmp .ge 43, 3) := by decide +kernel
theorem dX9_isAt_43 : decode cX9_isAt 43 = .ok (.aload_n 0, 1) := by decide +kernel
theorem dX9_isAt_44 : decode cX9_isAt 44 = .ok (.getfield 28, 3) := by decide +kernel
theorem dX9_isAt_47 : decode cX9_isAt 47 = .ok (.iload_n 2, 1) := by decide +kernel
theorem dX9_isAt_48 : decode cX9_isAt 48 = .ok (.iadd, 1) := by decide +kernel
theorem dX9_isAt_49 : decode cX9_isAt 49 = .ok (.aload_n 0, 1) := by decide +kernel
theorem dX9_isAt_50 : decode cX9_isAt 50 = .ok (.getfield 15, 3) := by decide +kernel
theorem dX9_isAt_53 : decode cX9_isAt 53 = .ok (.if_icmp .ge 30, 3) := by decide +kernel
theorem dX9_isAt_56 : decode cX9_isAt 56 = .ok (.aload_n 0, 1) := by decide +kernel
theorem dX9_isAt_57 : decode cX9_isAt 57 = .ok (.getfield 9, 3) := by decide +kernel
theorem dX9_isAt_60 : decode cX9_isAt 60 = .ok (.aload_n 0, 1) := by decide +kernel
theorem dX9_isAt_61 : decode cX9_isAt 61 = .ok (.getfield 28, 3) := by decide +kernel
theorem dX9_isAt_64 : decode cX9_isAt 64 = .ok (.iload_n 2, 1) := by decide +kernel
theorem dX9_isAt_65 : decode cX9_isAt 65 = .ok (.iadd, 1) := by decide +kernel
theorem dX9_isAt_66 : decode cX9_isAt 66 = .ok (.baload, 1) := by decide +kernel
theorem dX9_isAt_67 : decode cX9_isAt 67 = .ok (.aload_n 1, 1) := by decide +kernel
theorem dX9_isAt_68 : decode cX9_isAt 68 = .ok (.iload_n 2, 1) := by decide +kernel
theorem dX9_isAt_69 : decode cX9_isAt 69 = .ok (.invokevirtual 47, 3) := by decide +kernel
theorem dX9_isAt_72 : decode cX9_isAt 72 = .ok (.if_icmp .eq 5, 3) := by decide +kernel
theorem dX9_isAt_75 : decode cX9_isAt 75 = .ok (.iconst 0, 1) := by decide +kernel
theorem dX9_isAt_76 : decode cX9_isAt 76 = .ok (.ireturn, 1) := by decide +kernel
theorem dX9_isAt_77 : decode cX9_isAt 77 = .ok (.iinc 2 1, 3) := by decide +kernel
theorem dX9_isAt_80 : decode cX9_isAt 80 = .ok (.goto (-45), 3) := by decide +kernel
theorem dX9_isAt_83 : decode cX9_isAt 83 = .ok (.iconst 1, 1) := by decide +kernel
theorem dX9_isAt_84 : decode cX9_isAt 84 = .ok (.ireturn, 1) := by decide +kernel
set_option maxRecDepth 20000 in
theorem ggX9_passes_X9_isAt : GoodIn wsX9_passes wsX9_isAt := goodIn_r _ [5, 6, 7, 8, 9, 10, 11, 12, 13, 14, 15, 16, 17, 18, 19, 20, 21, 22, 23, 24, 25, 26, 27, 28, 29, 30, 31, 32, 33, 34, 35, 36, 37, 38, 39, 40, 41, 42, 43, 44, 45, 46, 47, 48, 49, 50, 51, 52, 53, 54, 55, 56, 57, 58, 59, 60, 67, 68, 69, 70, 71, 72, 73, 74] (by decide +kernel) (by decide +kernel)
set_option maxRecDepth 20000 in
theorem gX9_passes_X9_isAt : GoodIn wsX9_passes (wsV RX9 51 RX9 yX9_isAt wsX9_isAt) := goodIn_app (goodIn_of _ (by decide +kernel)) ggX9_passes_X9_isAt
set_option maxRecDepth 20000 in
theorem ggX9_passes_X9_step : GoodIn wsX9_passes wsX9_step := goodIn_r _ [64, 8, 10, 11, 9, 65, 7, 66, 67, 68, 69, 70, 71, 72, 73, 74] (by decide +kernel) (by decide +kernel)
set_option maxRecDepth 20000 in
theorem gX9_passes_X9_step : GoodIn wsX9_passes (wsV RX9 37 RX9 yX9_step wsX9_step) := goodIn_app (goodIn_of _ (by decide +kernel)) ggX9_passes_X9_step
theorem dX9_passes_0 : decode cX9_passes 0 = .ok (.aload_n 0, 1) := by decide +kernel
theorem dX9_passes_1 : decode cX9_passes 1 = .ok (.aload_n 1, 1) := by decide +kernel
theorem dX9_passes_2 : decode cX9_passes 2 = .ok (.invokevirtual 51, 3) := by decide +kernel
theorem dX9_passes_5 : decode cX9_passes 5 = .ok (.ifCond .ne 5, 3) := by decide +kernel
theorem dX9_passes_8 : decode cX9_passes 8 = .ok (.iconst 0, 1) := by decide +kernel
theorem dX9_passes_9 : decode cX9_passes 9 = .ok (.ireturn, 1) := by decide +kernel
theorem dX9_passes_10 : decode cX9_passes 10 = .ok (.aload_n 0, 1) := by decide +kernel
theorem dX9_passes_11 : decode cX9_passes 11 = .ok (.invokevirtual 37, 3) := by decide +kernel
theorem dX9_passes_14 : decode cX9_passes 14 = .ok (.iconst 1, 1) := by decide +kernel
theorem dX9_passes_15 : decode cX9_passes 15 = .ok (.ireturn, 1) := by decide +kernel
set_option maxRecDepth 20000 in
theorem ggX9_expect_X9_passes : GoodIn wsX9_expect wsX9_passes := goodIn_r _ [5, 6, 7, 8, 4, 9, 10, 11, 12, 13, 14, 15, 16, 17, 18, 19, 20, 21, 22, 23, 24, 25, 26, 27, 28, 29, 30, 31, 32, 33, 34, 35, 36, 37, 38, 39, 40, 41, 42, 43, 44, 45, 46, 47, 48, 49, 50, 51, 52, 53, 54, 55, 56, 57, 58, 59, 60, 61, 62, 63, 64, 65, 66, 67, 68, 69, 70, 76, 77, 78, 79, 80, 81, 82, 83] (by decide +kernel) (by decide +kernel)
set_option maxRecDepth 20000 in
theorem gX9_expect_X9_passes : GoodIn wsX9_expect (wsV RX9 55 RX9 yX9_passes wsX9_passes) := goodIn_app (goodIn_of _ (by decide +kernel)) ggX9_expect_X9_passes
set_option maxRecDepth 20000 in
theorem ggX9_expect_X9_fail : GoodIn wsX9_expect wsX9_fail := goodIn_r _ [74, 10, 13, 75, 76, 77, 78, 79, 80, 81, 82, 83] (by decide +kernel) (by decide +kernel)
set_option maxRecDepth 20000 in
theorem gX9_expect_X9_fail : GoodIn wsX9_expect (wsV RX9 58 RX9 yX9_fail wsX9_fail) := goodIn_app (goodIn_of _ (by decide +kernel)) ggX9_expect_X9_fail
theorem dX9_expect_0 : decode cX9_expect 0 = .ok (.aload_n 0, 1) := by decide +kernel
theorem dX9_expect_1 : decode cX9_expect 1 = .ok (.aload_n 1, 1) := by decide +kernel
theorem dX9_expect_2 : decode cX9_expect 2 = .ok (.invokevirtual 55, 3) := by decide +kernel
theorem dX9_expect_5 : decode cX9_expect 5 = .ok (.ifCond .ne 8, 3) := by decide +kernel
theorem dX9_expect_8 : decode cX9_expect 8 = .ok (.aload_n 0, 1) := by decide +kernel
theorem dX9_expect_9 : decode cX9_expect 9 = .ok (.iconst 1, 1) := by decide +kernel
theorem dX9_expect_10 : decode cX9_expect 10 = .ok (.invokevirtual 58, 3) := by decide +kernel
theorem dX9_expect_13 : decode cX9_expect 13 = .ok (.return_, 1) := by decide +kernel
set_option maxRecDepth 20000 in
theorem ggX9_expectSign_X9_step : GoodIn wsX9_expectSign wsX9_step := goodIn_r _ [7, 8, 9, 10, 11, 12, 2, 13, 19, 20, 21, 22, 23, 24, 25, 26] (by decide +kernel) (by decide +kernel)
set_option maxRecDepth 20000 in
theorem gX9_expectSign_X9_step : GoodIn wsX9_expectSign (wsV RX9 37 RX9 yX9_step wsX9_step) := goodIn_app (goodIn_of _ (by decide +kernel)) ggX9_expectSign_X9_step
set_option maxRecDepth 20000 in
theorem ggX9_expectSign_X9_fail : GoodIn wsX9_expectSign wsX9_fail := goodIn_r _ [17, 1, 11, 18, 19, 20, 21, 22, 23, 24, 25, 26] (by decide +kernel) (by decide +kernel)
set_option maxRecDepth 20000 in
theorem gX9_expectSign_X9_fail : GoodIn wsX9_expectSign (wsV RX9 58 RX9 yX9_fail wsX9_fail) := goodIn_app (goodIn_of _ (by decide +kernel)) ggX9_expectSign_X9_fail
theorem dX9_expectSign_0 : decode cX9_expectSign 0 = .ok (.aload_n 0, 1) := by decide +kernel
theorem dX9_expectSign_1 : decode cX9_expectSign 1 = .ok (.getfield 22, 3) := by decide +kernel
theorem dX9_expectSign_4 : decode cX9_expectSign 4 = .ok (.ifCond .ne 18, 3) := by decide +kernel
theorem dX9_expectSign_7 : decode cX9_expectSign 7 = .ok (.aload_n 0, 1) := by decide +kernel
theorem dX9_expectSign_8 : decode cX9_expectSign 8 = .ok (.getfield 19, 3) := by decide +kernel
theorem dX9_expectSign_11 : decode cX9_expectSign 11 = .ok (.iconst 3, 1) := by decide +kernel
theorem dX9_expectSign_12 : decode cX9_expectSign 12 = .ok (.if_icmp .ne 10, 3) := by decide +kernel
theorem dX9_expectSign_15 : decode cX9_expectSign 15 = .ok (.aload_n 0, 1) := by decide +kernel
theorem dX9_expectSign_16 : decode cX9_expectSign 16 = .ok (.invokevirtual 37, 3) := by decide +kernel
theorem dX9_expectSign_19 : decode cX9_expectSign 19 = .ok (.goto 8, 3) := by decide +kernel
theorem dX9_expectSign_22 : decode cX9_expectSign 22 = .ok (.aload_n 0, 1) := by decide +kernel
theorem dX9_expectSign_23 : decode cX9_expectSign 23 = .ok (.iconst 1, 1) := by decide +kernel
theorem dX9_expectSign_24 : decode cX9_expectSign 24 = .ok (.invokevirtual 58, 3) := by decide +kernel
theorem dX9_expectSign_27 : decode cX9_expectSign 27 = .ok (.return_, 1) := by decide +kernel
set_option maxRecDepth 20000 in
theorem ggX9_expectNumber_X9_fail : GoodIn wsX9_expectNumber wsX9_fail := goodIn_r _ [8, 3, 9, 10, 19, 20, 21, 22, 23, 24, 25, 26] (by decide +kernel) (by decide +kernel)
set_option maxRecDepth 20000 in
theorem gX9_expectNumber_X9_fail : GoodIn wsX9_expectNumber (wsV RX9 58 RX9 yX9_fail wsX9_fail) := goodIn_app (goodIn_of _ (by decide +kernel)) ggX9_expectNumber_X9_fail
set_option maxRecDepth 20000 in
theorem ggX9_expectNumber_X9_step : GoodIn wsX9_expectNumber wsX9_step := goodIn_r _ [14, 15, 16, 17, 9, 2, 1, 18, 19, 20, 21, 22, 23, 24, 25, 26] (by decide +kernel) (by decide +kernel)
set_option maxRecDepth 20000 in
theorem gX9_expectNumber_X9_step : GoodIn wsX9_expectNumber (wsV RX9 37 RX9 yX9_step wsX9_step) := goodIn_app (goodIn_of _ (by decide +kernel)) ggX9_expectNumber_X9_step
theorem dX9_expectNumber_0 : decode cX9_expectNumber 0 = .ok (.aload_n 0, 1) := by decide +kernel
theorem dX9_expectNumber_1 : decode cX9_expectNumber 1 = .ok (.getfield 19, 3) := by decide +kernel
theorem dX9_expectNumber_4 : decode cX9_expectNumber 4 = .ok (.iconst 2, 1) := by decide +kernel
theorem dX9_expectNumber_5 : decode cX9_expectNumber 5 = .ok (.if_icmp .eq 11, 3) := by decide +kernel
theorem dX9_expectNumber_8 : decode cX9_expectNumber 8 = .ok (.aload_n 0, 1) := by decide +kernel
theorem dX9_expectNumber_9 : decode cX9_expectNumber 9 = .ok (.iconst 1, 1) := by decide +kernel
theorem dX9_expectNumber_10 : decode cX9_expectNumber 10 = .ok (.invokevirtual 58, 3) := by decide +kernel
theorem dX9_expectNumber_13 : decode cX9_expectNumber 13 = .ok (.goto 24, 3) := by decide +kernel
theorem dX9_expectNumber_16 : decode cX9_expectNumber 16 = .ok (.aload_n 0, 1) := by decide +kernel
theorem dX9_expectNumber_17 : decode cX9_expectNumber 17 = .ok (.getfield 34, 3) := by decide +kernel
theorem dX9_expectNumber_20 : decode cX9_expectNumber 20 = .ok (.iload_n 1, 1) := by decide +kernel
theorem dX9_expectNumber_21 : decode cX9_expectNumber 21 = .ok (.if_icmp .lt 11, 3) := by decide +kernel
theorem dX9_expectNumber_24 : decode cX9_expectNumber 24 = .ok (.aload_n 0, 1) := by decide +kernel
theorem dX9_expectNumber_25 : decode cX9_expectNumber 25 = .ok (.getfield 34, 3) := by decide +kernel
theorem dX9_expectNumber_28 : decode cX9_expectNumber 28 = .ok (.iload_n 2, 1) := by decide +kernel
theorem dX9_expectNumber_29 : decode cX9_expectNumber 29 = .ok (.if_icmp .le 8, 3) := by decide +kernel
theorem dX9_expectNumber_32 : decode cX9_expectNumber 32 = .ok (.aload_n 0, 1) := by decide +kernel
theorem dX9_expectNumber_33 : decode cX9_expectNumber 33 = .ok (.iconst 2, 1) := by decide +kernel
theorem dX9_expectNumber_34 : decode cX9_expectNumber 34 = .ok (.invokevirtual 58, 3) := by decide +kernel
theorem dX9_expectNumber_37 : decode cX9_expectNumber 37 = .ok (.aload_n 0, 1) := by decide +kernel
theorem dX9_expectNumber_38 : decode cX9_expectNumber 38 = .ok (.getfield 22, 3) := by decide +kernel
theorem dX9_expectNumber_41 : decode cX9_expectNumber 41 = .ok (.ifCond .eq 5, 3) := by decide +kernel
theorem dX9_expectNumber_44 : decode cX9_expectNumber 44 = .ok (.iload_n 1, 1) := by decide +kernel
theorem dX9_expectNumber_45 : decode cX9_expectNumber 45 = .ok (.ireturn, 1) := by decide +kernel
theorem dX9_expectNumber_46 : decode cX9_expectNumber 46 = .ok (.aload_n 0, 1) := by decide +kernel
theorem dX9_expectNumber_47 : decode cX9_expectNumber 47 = .ok (.getfield 34, 3) := by decide +kernel
theorem dX9_expectNumber_50 : decode cX9_expectNumber 50 = .ok (.istore_n 3, 1) := by decide +kernel
theorem dX9_expectNumber_51 : decode cX9_expectNumber 51 = .ok (.aload_n 0, 1) := by decide +kernel
theorem dX9_expectNumber_52 : decode cX9_expectNumber 52 = .ok (.invokevirtual 37, 3) := by decide +kernel
theorem dX9_expectNumber_55 : decode cX9_expectNumber 55 = .ok (.iload_n 3, 1) := by decide +kernel
theorem dX9_expectNumber_56 : decode cX9_expectNumber 56 = .ok (.ireturn, 1) := by decide +kernel
set_option maxRecDepth 20000 in
theorem ggX10_init_X1_init : GoodIn wsX10_init wsX1_init := goodIn_r _ [28, 29, 2, 3, 30, 31, 22, 32, 33, 34, 59, 60, 61, 62, 63] (by decide +kernel) (by decide +kernel)
set_option maxRecDepth 20000 in
theorem gX10_init_X1_init_n11 : GoodIn wsX10_init (wsX1_init) := ggX10_init_X1_init
set_option maxRecDepth 20000 in
theorem ggX10_init_X6_init : GoodIn wsX10_init wsX6_init := goodIn_r _ [36, 37, 2, 3, 38, 39, 22, 40, 41, 42, 43, 76, 77, 78, 79, 80, 81] (by decide +kernel) (by decide +kernel)
set_option maxRecDepth 20000 in
theorem gX10_init_X6_init_n20 : GoodIn wsX10_init (wsX6_init) := ggX10_init_X6_init
set_option maxRecDepth 20000 in
theorem ggX10_init_X4_init : GoodIn wsX10_init wsX4_init := goodIn_r _ [45, 46, 2, 3, 47, 48, 49, 22, 50, 51, 52, 53, 54, 55, 56, 57, 58, 82, 83, 84, 85, 86, 87, 88, 89, 90, 91, 92] (by decide +kernel) (by decide +kernel)
set_option maxRecDepth 20000 in
theorem gX10_init_X4_init_n27 : GoodIn wsX10_init (wsX4_init) := ggX10_init_X4_init
theorem dX10_init_0 : decode cX10_init 0 = .ok (.aload_n 0, 1) := by decide +kernel
theorem dX10_init_1 : decode cX10_init 1 = .ok (.invokespecial 3, 3) := by decide +kernel
theorem dX10_init_4 : decode cX10_init 4 = .ok (.aload_n 0, 1) := by decide +kernel
theorem dX10_init_5 : decode cX10_init 5 = .ok (.new 9, 3) := by decide +kernel
theorem dX10_init_8 : decode cX10_init 8 = .ok (.dup, 1) := by decide +kernel
theorem dX10_init_9 : decode cX10_init 9 = .ok (.invokespecial 11, 3) := by decide +kernel
theorem dX10_init_12 : decode cX10_init 12 = .ok (.putfield 12, 3) := by decide +kernel
theorem dX10_init_15 : decode cX10_init 15 = .ok (.aload_n 0, 1) := by decide +kernel
theorem dX10_init_16 : decode cX10_init 16 = .ok (.new 18, 3) := by decide +kernel
theorem dX10_init_19 : decode cX10_init 19 = .ok (.dup, 1) := by decide +kernel
theorem dX10_init_20 : decode cX10_init 20 = .ok (.invokespecial 20, 3) := by decide +kernel
theorem dX10_init_23 : decode cX10_init 23 = .ok (.putfield 21, 3) := by decide +kernel
theorem dX10_init_26 : decode cX10_init 26 = .ok (.aload_n 0, 1) := by decide +kernel
theorem dX10_init_27 : decode cX10_init 27 = .ok (.new 25, 3) := by decide +kernel
theorem dX10_init_30 : decode cX10_init 30 = .ok (.dup, 1) := by decide +kernel
theorem dX10_init_31 : decode cX10_init 31 = .ok (.invokespecial 27, 3) := by decide +kernel
theorem dX10_init_34 : decode cX10_init 34 = .ok (.putfield 28, 3) := by decide +kernel
theorem dX10_init_37 : decode cX10_init 37 = .ok (.aload_n 0, 1) := by decide +kernel
theorem dX10_init_38 : decode cX10_init 38 = .ok (.iconst 0, 1) := by decide +kernel
theorem dX10_init_39 : decode cX10_init 39 = .ok (.putfield 32, 3) := by decide +kernel
theorem dX10_init_42 : decode cX10_init 42 = .ok (.aload_n 0, 1) := by decide +kernel
theorem dX10_init_43 : decode cX10_init 43 = .ok (.iconst 0, 1) := by decide +kernel
theorem dX10_init_44 : decode cX10_init 44 = .ok (.putfield 36, 3) := by decide +kernel
theorem dX10_init_47 : decode cX10_init 47 = .ok (.aload_n 0, 1) := by decide +kernel
theorem dX10_init_48 : decode cX10_init 48 = .ok (.iconst 0, 1) := by decide +kernel
theorem dX10_init_49 : decode cX10_init 49 = .ok (.putfield 39, 3) := by decide +kernel
theorem dX10_init_52 : decode cX10_init 52 = .ok (.aload_n 0, 1) := by decide +kernel
theorem dX10_init_53 : decode cX10_init 53 = .ok (.iconst 0, 1) := by decide +kernel
theorem dX10_init_54 : decode cX10_init 54 = .ok (.putfield 42, 3) := by decide +kernel
theorem dX10_init_57 : decode cX10_init 57 = .ok (.aload_n 0, 1) := by decide +kernel
theorem dX10_init_58 : decode cX10_init 58 = .ok (.iconst 0, 1) := by decide +kernel
theorem dX10_init_59 : decode cX10_init 59 = .ok (.putfield 46, 3) := by decide +kernel
theorem dX10_init_62 : decode cX10_init 62 = .ok (.aload_n 0, 1) := by decide +kernel
theorem dX10_init_63 : decode cX10_init 63 = .ok (.iconst 0, 1) := by decide +kernel
theorem dX10_init_64 : decode cX10_init 64 = .ok (.putfield 49, 3) := by decide +kernel
theorem dX10_init_67 : decode cX10_init 67 = .ok (.aload_n 0, 1) := by decide +kernel
theorem dX10_init_68 : decode cX10_init 68 = .ok (.bipush 8, 2) := by decide +kernel
theorem dX10_init_70 : decode cX10_init 70 = .ok (.newarray .int, 2) := by decide +kernel
theorem dX10_init_72 : decode cX10_init 72 = .ok (.putfield 52, 3) := by decide +kernel
theorem dX10_init_75 : decode cX10_init 75 = .ok (.aload_n 0, 1) := by decide +kernel
theorem dX10_init_76 : decode cX10_init 76 = .ok (.bipush 8, 2) := by decide +kernel
theorem dX10_init_78 : decode cX10_init 78 = .ok (.newarray .int, 2) := by decide +kernel
theorem dX10_init_80 : decode cX10_init 80 = .ok (.putfield 56, 3) := by decide +kernel
theorem dX10_init_83 : decode cX10_init 83 = .ok (.aload_n 0, 1) := by decide +kernel
theorem dX10_init_84 : decode cX10_init 84 = .ok (.bipush 12, 2) := by decide +kernel
theorem dX10_init_86 : decode cX10_init 86 = .ok (.anewarray 59, 3) := by decide +kernel
theorem dX10_init_89 : decode cX10_init 89 = .ok (.putfield 61, 3) := by decide +kernel
theorem dX10_init_92 : decode cX10_init 92 = .ok (.return_, 1) := by decide +kernel
set_option maxRecDepth 20000 in
theorem ggX10_addPot_X10_heightOf : GoodIn wsX10_addPot wsX10_heightOf := goodIn_r _ [8, 2, 9, 10, 11, 12, 13, 14, 15, 16, 17, 18, 19, 20] (by decide +kernel) (by decide +kernel)
set_option maxRecDepth 20000 in
theorem gX10_addPot_X10_heightOf : GoodIn wsX10_addPot (wsV RX10 65 RX10 yX10_heightOf wsX10_heightOf) := goodIn_app (goodIn_of _ (by decide +kernel)) ggX10_addPot_X10_heightOf
theorem dX10_addPot_0 : decode cX10_addPot 0 = .ok (.aload_n 0, 1) := by decide +kernel
theorem dX10_addPot_1 : decode cX10_addPot 1 = .ok (.getfield 36, 3) := by decide +kernel
theorem dX10_addPot_4 : decode cX10_addPot 4 = .ok (.ifCond .lt 12, 3) := by decide +kernel
theorem dX10_addPot_7 : decode cX10_addPot 7 = .ok (.aload_n 0, 1) := by decide +kernel
theorem dX10_addPot_8 : decode cX10_addPot 8 = .ok (.getfield 36, 3) := by decide +kernel
theorem dX10_addPot_11 : decode cX10_addPot 11 = .ok (.bipush 8, 2) := by decide +kernel
theorem dX10_addPot_13 : decode cX10_addPot 13 = .ok (.if_icmp .lt 4, 3) := by decide +kernel
theorem dX10_addPot_16 : decode cX10_addPot 16 = .ok (.return_, 1) := by decide +kernel
theorem dX10_addPot_17 : decode cX10_addPot 17 = .ok (.aload_n 0, 1) := by decide +kernel
theorem dX10_addPot_18 : decode cX10_addPot 18 = .ok (.getfield 52, 3) := by decide +kernel
theorem dX10_addPot_21 : decode cX10_addPot 21 = .ok (.aload_n 0, 1) := by decide +kernel
theorem dX10_addPot_22 : decode cX10_addPot 22 = .ok (.getfield 36, 3) := by decide +kernel
theorem dX10_addPot_25 : decode cX10_addPot 25 = .ok (.aload_n 0, 1) := by decide +kernel
theorem dX10_addPot_26 : decode cX10_addPot 26 = .ok (.aload_n 0, 1) := by decide +kernel
theorem dX10_addPot_27 : decode cX10_addPot 27 = .ok (.getfield 36, 3) := by decide +kernel
theorem dX10_addPot_30 : decode cX10_addPot 30 = .ok (.iconst 1, 1) := by decide +kernel
theorem dX10_addPot_31 : decode cX10_addPot 31 = .ok (.isub, 1) := by decide +kernel
theorem dX10_addPot_32 : decode cX10_addPot 32 = .ok (.invokevirtual 65, 3) := by decide +kernel
theorem dX10_addPot_35 : decode cX10_addPot 35 = .ok (.iload_n 1, 1) := by decide +kernel
theorem dX10_addPot_36 : decode cX10_addPot 36 = .ok (.isub, 1) := by decide +kernel
theorem dX10_addPot_37 : decode cX10_addPot 37 = .ok (.iastore, 1) := by decide +kernel
theorem dX10_addPot_38 : decode cX10_addPot 38 = .ok (.aload_n 0, 1) := by decide +kernel
theorem dX10_addPot_39 : decode cX10_addPot 39 = .ok (.getfield 56, 3) := by decide +kernel
theorem dX10_addPot_42 : decode cX10_addPot 42 = .ok (.aload_n 0, 1) := by decide +kernel
