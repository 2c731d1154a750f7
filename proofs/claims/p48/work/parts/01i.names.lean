theorem dX12_keep_54 : decode cX12_keep 54 = .ok (.bastore, 1) := by decide +kernel
theorem dX12_keep_55 : decode cX12_keep 55 = .ok (.iconst 0, 1) := by decide +kernel
theorem dX12_keep_56 : decode cX12_keep 56 = .ok (.ireturn, 1) := by decide +kernel
set_option maxRecDepth 20000 in
theorem ggX12_back_X12_in : GoodIn wsX12_back wsX12_in := goodIn_r _ [8] (by decide +kernel) (by decide +kernel)
set_option maxRecDepth 20000 in
theorem gX12_back_X12_in : GoodIn wsX12_back (va_wsS RX12 76 yX12_in wsX12_in) := goodIn_app (goodIn_of _ (by decide +kernel)) ggX12_back_X12_in
theorem dX12_back_0 : decode cX12_back 0 = .ok (.iload_n 1, 1) := by decide +kernel
theorem dX12_back_1 : decode cX12_back 1 = .ok (.i2l, 1) := by decide +kernel
theorem dX12_back_2 : decode cX12_back 2 = .ok (.lconst 0, 1) := by decide +kernel
theorem dX12_back_3 : decode cX12_back 3 = .ok (.ldc2_w 74, 3) := by decide +kernel
theorem dX12_back_6 : decode cX12_back 6 = .ok (.invokestatic 76, 3) := by decide +kernel
theorem dX12_back_9 : decode cX12_back 9 = .ok (.ifCond .ne 6, 3) := by decide +kernel
theorem dX12_back_12 : decode cX12_back 12 = .ok (.bipush (-2), 2) := by decide +kernel
theorem dX12_back_14 : decode cX12_back 14 = .ok (.ireturn, 1) := by decide +kernel
theorem dX12_back_15 : decode cX12_back 15 = .ok (.aload_n 0, 1) := by decide +kernel
theorem dX12_back_16 : decode cX12_back 16 = .ok (.getfield 20, 3) := by decide +kernel
theorem dX12_back_19 : decode cX12_back 19 = .ok (.iload_n 1, 1) := by decide +kernel
theorem dX12_back_20 : decode cX12_back 20 = .ok (.baload, 1) := by decide +kernel
theorem dX12_back_21 : decode cX12_back 21 = .ok (.ifCond .ne 6, 3) := by decide +kernel
theorem dX12_back_24 : decode cX12_back 24 = .ok (.bipush (-6), 2) := by decide +kernel
theorem dX12_back_26 : decode cX12_back 26 = .ok (.ireturn, 1) := by decide +kernel
theorem dX12_back_27 : decode cX12_back 27 = .ok (.iconst 0, 1) := by decide +kernel
theorem dX12_back_28 : decode cX12_back 28 = .ok (.istore_n 2, 1) := by decide +kernel
theorem dX12_back_29 : decode cX12_back 29 = .ok (.iload_n 2, 1) := by decide +kernel
theorem dX12_back_30 : decode cX12_back 30 = .ok (.sipush 2482, 3) := by decide +kernel
theorem dX12_back_33 : decode cX12_back 33 = .ok (.if_icmp .ge 27, 3) := by decide +kernel
theorem dX12_back_36 : decode cX12_back 36 = .ok (.aload_n 0, 1) := by decide +kernel
theorem dX12_back_37 : decode cX12_back 37 = .ok (.getfield 13, 3) := by decide +kernel
theorem dX12_back_40 : decode cX12_back 40 = .ok (.iload_n 2, 1) := by decide +kernel
theorem dX12_back_41 : decode cX12_back 41 = .ok (.aload_n 0, 1) := by decide +kernel
theorem dX12_back_42 : decode cX12_back 42 = .ok (.getfield 17, 3) := by decide +kernel
theorem dX12_back_45 : decode cX12_back 45 = .ok (.sipush 2482, 3) := by decide +kernel
theorem dX12_back_48 : decode cX12_back 48 = .ok (.iload_n 1, 1) := by decide +kernel
theorem dX12_back_49 : decode cX12_back 49 = .ok (.imul, 1) := by decide +kernel
theorem dX12_back_50 : decode cX12_back 50 = .ok (.iload_n 2, 1) := by decide +kernel
theorem dX12_back_51 : decode cX12_back 51 = .ok (.iadd, 1) := by decide +kernel
theorem dX12_back_52 : decode cX12_back 52 = .ok (.iaload, 1) := by decide +kernel
theorem dX12_back_53 : decode cX12_back 53 = .ok (.iastore, 1) := by decide +kernel
theorem dX12_back_54 : decode cX12_back 54 = .ok (.iinc 2 1, 3) := by decide +kernel
theorem dX12_back_57 : decode cX12_back 57 = .ok (.goto (-28), 3) := by decide +kernel
theorem dX12_back_60 : decode cX12_back 60 = .ok (.iconst 0, 1) := by decide +kernel
theorem dX12_back_61 : decode cX12_back 61 = .ok (.ireturn, 1) := by decide +kernel
set_option maxRecDepth 20000 in
theorem ggX12_isPot_X12_in : GoodIn wsX12_isPot wsX12_in := goodIn_r _ [5] (by decide +kernel) (by decide +kernel)
set_option maxRecDepth 20000 in
theorem gX12_isPot_X12_in : GoodIn wsX12_isPot (va_wsS RX12 76 yX12_in wsX12_in) := goodIn_app (goodIn_of _ (by decide +kernel)) ggX12_isPot_X12_in
theorem dX12_isPot_0 : decode cX12_isPot 0 = .ok (.iload_n 1, 1) := by decide +kernel
theorem dX12_isPot_1 : decode cX12_isPot 1 = .ok (.i2l, 1) := by decide +kernel
theorem dX12_isPot_2 : decode cX12_isPot 2 = .ok (.lconst 0, 1) := by decide +kernel
theorem dX12_isPot_3 : decode cX12_isPot 3 = .ok (.aload_n 0, 1) := by decide +kernel
theorem dX12_isPot_4 : decode cX12_isPot 4 = .ok (.getfield 13, 3) := by decide +kernel
theorem dX12_isPot_7 : decode cX12_isPot 7 = .ok (.iconst 1, 1) := by decide +kernel
theorem dX12_isPot_8 : decode cX12_isPot 8 = .ok (.iaload, 1) := by decide +kernel
theorem dX12_isPot_9 : decode cX12_isPot 9 = .ok (.iconst 1, 1) := by decide +kernel
theorem dX12_isPot_10 : decode cX12_isPot 10 = .ok (.isub, 1) := by decide +kernel
theorem dX12_isPot_11 : decode cX12_isPot 11 = .ok (.i2l, 1) := by decide +kernel
theorem dX12_isPot_12 : decode cX12_isPot 12 = .ok (.invokestatic 76, 3) := by decide +kernel
theorem dX12_isPot_15 : decode cX12_isPot 15 = .ok (.ireturn, 1) := by decide +kernel
set_option maxRecDepth 20000 in
theorem ggX12_isPipe_X12_in : GoodIn wsX12_isPipe wsX12_in := goodIn_r _ [5] (by decide +kernel) (by decide +kernel)
set_option maxRecDepth 20000 in
theorem gX12_isPipe_X12_in : GoodIn wsX12_isPipe (va_wsS RX12 76 yX12_in wsX12_in) := goodIn_app (goodIn_of _ (by decide +kernel)) ggX12_isPipe_X12_in
theorem dX12_isPipe_0 : decode cX12_isPipe 0 = .ok (.iload_n 1, 1) := by decide +kernel
theorem dX12_isPipe_1 : decode cX12_isPipe 1 = .ok (.i2l, 1) := by decide +kernel
theorem dX12_isPipe_2 : decode cX12_isPipe 2 = .ok (.lconst 0, 1) := by decide +kernel
theorem dX12_isPipe_3 : decode cX12_isPipe 3 = .ok (.aload_n 0, 1) := by decide +kernel
theorem dX12_isPipe_4 : decode cX12_isPipe 4 = .ok (.getfield 13, 3) := by decide +kernel
theorem dX12_isPipe_7 : decode cX12_isPipe 7 = .ok (.iconst 2, 1) := by decide +kernel
theorem dX12_isPipe_8 : decode cX12_isPipe 8 = .ok (.iaload, 1) := by decide +kernel
theorem dX12_isPipe_9 : decode cX12_isPipe 9 = .ok (.iconst 1, 1) := by decide +kernel
theorem dX12_isPipe_10 : decode cX12_isPipe 10 = .ok (.isub, 1) := by decide +kernel
theorem dX12_isPipe_11 : decode cX12_isPipe 11 = .ok (.i2l, 1) := by decide +kernel
theorem dX12_isPipe_12 : decode cX12_isPipe 12 = .ok (.invokestatic 76, 3) := by decide +kernel
theorem dX12_isPipe_15 : decode cX12_isPipe 15 = .ok (.ireturn, 1) := by decide +kernel
set_option maxRecDepth 20000 in
theorem ggX12_isHour_X12_in : GoodIn wsX12_isHour wsX12_in := goodIn_r _ [5] (by decide +kernel) (by decide +kernel)
set_option maxRecDepth 20000 in
theorem gX12_isHour_X12_in : GoodIn wsX12_isHour (va_wsS RX12 76 yX12_in wsX12_in) := goodIn_app (goodIn_of _ (by decide +kernel)) ggX12_isHour_X12_in
theorem dX12_isHour_0 : decode cX12_isHour 0 = .ok (.iload_n 1, 1) := by decide +kernel
theorem dX12_isHour_1 : decode cX12_isHour 1 = .ok (.i2l, 1) := by decide +kernel
theorem dX12_isHour_2 : decode cX12_isHour 2 = .ok (.lconst 0, 1) := by decide +kernel
theorem dX12_isHour_3 : decode cX12_isHour 3 = .ok (.aload_n 0, 1) := by decide +kernel
theorem dX12_isHour_4 : decode cX12_isHour 4 = .ok (.getfield 13, 3) := by decide +kernel
theorem dX12_isHour_7 : decode cX12_isHour 7 = .ok (.bipush 6, 2) := by decide +kernel
theorem dX12_isHour_9 : decode cX12_isHour 9 = .ok (.iaload, 1) := by decide +kernel
theorem dX12_isHour_10 : decode cX12_isHour 10 = .ok (.iconst 1, 1) := by decide +kernel
theorem dX12_isHour_11 : decode cX12_isHour 11 = .ok (.isub, 1) := by decide +kernel
theorem dX12_isHour_12 : decode cX12_isHour 12 = .ok (.i2l, 1) := by decide +kernel
theorem dX12_isHour_13 : decode cX12_isHour 13 = .ok (.invokestatic 76, 3) := by decide +kernel
theorem dX12_isHour_16 : decode cX12_isHour 16 = .ok (.ireturn, 1) := by decide +kernel
set_option maxRecDepth 20000 in
theorem ggX12_isPress_X12_in : GoodIn wsX12_isPress wsX12_in := goodIn_r _ [5] (by decide +kernel) (by decide +kernel)
set_option maxRecDepth 20000 in
theorem gX12_isPress_X12_in : GoodIn wsX12_isPress (va_wsS RX12 76 yX12_in wsX12_in) := goodIn_app (goodIn_of _ (by decide +kernel)) ggX12_isPress_X12_in
theorem dX12_isPress_0 : decode cX12_isPress 0 = .ok (.iload_n 0, 1) := by decide +kernel
theorem dX12_isPress_1 : decode cX12_isPress 1 = .ok (.i2l, 1) := by decide +kernel
theorem dX12_isPress_2 : decode cX12_isPress 2 = .ok (.lconst 0, 1) := by decide +kernel
theorem dX12_isPress_3 : decode cX12_isPress 3 = .ok (.ldc2_w 80, 3) := by decide +kernel
theorem dX12_isPress_6 : decode cX12_isPress 6 = .ok (.invokestatic 76, 3) := by decide +kernel
theorem dX12_isPress_9 : decode cX12_isPress 9 = .ok (.ireturn, 1) := by decide +kernel
theorem dX12_ofPipe_0 : decode cX12_ofPipe 0 = .ok (.aload_n 0, 1) := by decide +kernel
theorem dX12_ofPipe_1 : decode cX12_ofPipe 1 = .ok (.getfield 13, 3) := by decide +kernel
theorem dX12_ofPipe_4 : decode cX12_ofPipe 4 = .ok (.bipush 26, 2) := by decide +kernel
theorem dX12_ofPipe_6 : decode cX12_ofPipe 6 = .ok (.bipush 24, 2) := by decide +kernel
theorem dX12_ofPipe_8 : decode cX12_ofPipe 8 = .ok (.iload_n 1, 1) := by decide +kernel
theorem dX12_ofPipe_9 : decode cX12_ofPipe 9 = .ok (.imul, 1) := by decide +kernel
theorem dX12_ofPipe_10 : decode cX12_ofPipe 10 = .ok (.iadd, 1) := by decide +kernel
theorem dX12_ofPipe_11 : decode cX12_ofPipe 11 = .ok (.iload_n 2, 1) := by decide +kernel
theorem dX12_ofPipe_12 : decode cX12_ofPipe 12 = .ok (.iadd, 1) := by decide +kernel
theorem dX12_ofPipe_13 : decode cX12_ofPipe 13 = .ok (.iaload, 1) := by decide +kernel
theorem dX12_ofPipe_14 : decode cX12_ofPipe 14 = .ok (.ireturn, 1) := by decide +kernel
theorem dX12_ofRoom_0 : decode cX12_ofRoom 0 = .ok (.aload_n 0, 1) := by decide +kernel
theorem dX12_ofRoom_1 : decode cX12_ofRoom 1 = .ok (.getfield 13, 3) := by decide +kernel
theorem dX12_ofRoom_4 : decode cX12_ofRoom 4 = .ok (.sipush 314, 3) := by decide +kernel
theorem dX12_ofRoom_7 : decode cX12_ofRoom 7 = .ok (.iconst 5, 1) := by decide +kernel
theorem dX12_ofRoom_8 : decode cX12_ofRoom 8 = .ok (.iload_n 1, 1) := by decide +kernel
theorem dX12_ofRoom_9 : decode cX12_ofRoom 9 = .ok (.imul, 1) := by decide +kernel
theorem dX12_ofRoom_10 : decode cX12_ofRoom 10 = .ok (.iadd, 1) := by decide +kernel
theorem dX12_ofRoom_11 : decode cX12_ofRoom 11 = .ok (.iload_n 2, 1) := by decide +kernel
theorem dX12_ofRoom_12 : decode cX12_ofRoom 12 = .ok (.iadd, 1) := by decide +kernel
theorem dX12_ofRoom_13 : decode cX12_ofRoom 13 = .ok (.iaload, 1) := by decide +kernel
theorem dX12_ofRoom_14 : decode cX12_ofRoom 14 = .ok (.ireturn, 1) := by decide +kernel
theorem dX12_feed_0 : decode cX12_feed 0 = .ok (.aload_n 0, 1) := by decide +kernel
theorem dX12_feed_1 : decode cX12_feed 1 = .ok (.getfield 82, 3) := by decide +kernel
theorem dX12_feed_4 : decode cX12_feed 4 = .ok (.bipush 20, 2) := by decide +kernel
theorem dX12_feed_6 : decode cX12_feed 6 = .ok (.iadd, 1) := by decide +kernel
theorem dX12_feed_7 : decode cX12_feed 7 = .ok (.sipush 1600, 3) := by decide +kernel
theorem dX12_feed_10 : decode cX12_feed 10 = .ok (.if_icmp .le 5, 3) := by decide +kernel
theorem dX12_feed_13 : decode cX12_feed 13 = .ok (.iconst (-1), 1) := by decide +kernel
theorem dX12_feed_14 : decode cX12_feed 14 = .ok (.ireturn, 1) := by decide +kernel
theorem dX12_feed_15 : decode cX12_feed 15 = .ok (.aload_n 0, 1) := by decide +kernel
theorem dX12_feed_16 : decode cX12_feed 16 = .ok (.getfield 28, 3) := by decide +kernel
theorem dX12_feed_19 : decode cX12_feed 19 = .ok (.iconst 0, 1) := by decide +kernel
theorem dX12_feed_20 : decode cX12_feed 20 = .ok (.iload_n 1, 1) := by decide +kernel
theorem dX12_feed_21 : decode cX12_feed 21 = .ok (.iastore, 1) := by decide +kernel
theorem dX12_feed_22 : decode cX12_feed 22 = .ok (.aload_n 0, 1) := by decide +kernel
theorem dX12_feed_23 : decode cX12_feed 23 = .ok (.getfield 28, 3) := by decide +kernel
theorem dX12_feed_26 : decode cX12_feed 26 = .ok (.iconst 1, 1) := by decide +kernel
theorem dX12_feed_27 : decode cX12_feed 27 = .ok (.iload_n 2, 1) := by decide +kernel
theorem dX12_feed_28 : decode cX12_feed 28 = .ok (.iastore, 1) := by decide +kernel
theorem dX12_feed_29 : decode cX12_feed 29 = .ok (.aload_n 0, 1) := by decide +kernel
theorem dX12_feed_30 : decode cX12_feed 30 = .ok (.getfield 28, 3) := by decide +kernel
theorem dX12_feed_33 : decode cX12_feed 33 = .ok (.iconst 2, 1) := by decide +kernel
theorem dX12_feed_34 : decode cX12_feed 34 = .ok (.iload_n 3, 1) := by decide +kernel
theorem dX12_feed_35 : decode cX12_feed 35 = .ok (.iastore, 1) := by decide +kernel
theorem dX12_feed_36 : decode cX12_feed 36 = .ok (.aload_n 0, 1) := by decide +kernel
theorem dX12_feed_37 : decode cX12_feed 37 = .ok (.getfield 28, 3) := by decide +kernel
theorem dX12_feed_40 : decode cX12_feed 40 = .ok (.iconst 3, 1) := by decide +kernel
theorem dX12_feed_41 : decode cX12_feed 41 = .ok (.iload 4, 2) := by decide +kernel
theorem dX12_feed_43 : decode cX12_feed 43 = .ok (.iastore, 1) := by decide +kernel
theorem dX12_feed_44 : decode cX12_feed 44 = .ok (.aload_n 0, 1) := by decide +kernel
theorem dX12_feed_45 : decode cX12_feed 45 = .ok (.getfield 28, 3) := by decide +kernel
theorem dX12_feed_48 : decode cX12_feed 48 = .ok (.iconst 4, 1) := by decide +kernel
theorem dX12_feed_49 : decode cX12_feed 49 = .ok (.iload 5, 2) := by decide +kernel
theorem dX12_feed_51 : decode cX12_feed 51 = .ok (.iastore, 1) := by decide +kernel
theorem dX12_feed_52 : decode cX12_feed 52 = .ok (.iconst 0, 1) := by decide +kernel
theorem dX12_feed_53 : decode cX12_feed 53 = .ok (.istore 6, 2) := by decide +kernel
theorem dX12_feed_55 : decode cX12_feed 55 = .ok (.iload 6, 2) := by decide +kernel
theorem dX12_feed_57 : decode cX12_feed 57 = .ok (.bipush 20, 2) := by decide +kernel
theorem dX12_feed_59 : decode cX12_feed 59 = .ok (.if_icmp .ge 42, 3) := by decide +kernel
theorem dX12_feed_62 : decode cX12_feed 62 = .ok (.aload_n 0, 1) := by decide +kernel
theorem dX12_feed_63 : decode cX12_feed 63 = .ok (.getfield 24, 3) := by decide +kernel
theorem dX12_feed_66 : decode cX12_feed 66 = .ok (.aload_n 0, 1) := by decide +kernel
theorem dX12_feed_67 : decode cX12_feed 67 = .ok (.getfield 82, 3) := by decide +kernel
theorem dX12_feed_70 : decode cX12_feed 70 = .ok (.iload 6, 2) := by decide +kernel
theorem dX12_feed_72 : decode cX12_feed 72 = .ok (.iadd, 1) := by decide +kernel
theorem dX12_feed_73 : decode cX12_feed 73 = .ok (.aload_n 0, 1) := by decide +kernel
theorem dX12_feed_74 : decode cX12_feed 74 = .ok (.getfield 28, 3) := by decide +kernel
theorem dX12_feed_77 : decode cX12_feed 77 = .ok (.iload 6, 2) := by decide +kernel
theorem dX12_feed_79 : decode cX12_feed 79 = .ok (.iconst 4, 1) := by decide +kernel
theorem dX12_feed_80 : decode cX12_feed 80 = .ok (.idiv, 1) := by decide +kernel
theorem dX12_feed_81 : decode cX12_feed 81 = .ok (.iaload, 1) := by decide +kernel
theorem dX12_feed_82 : decode cX12_feed 82 = .ok (.bipush 24, 2) := by decide +kernel
theorem dX12_feed_84 : decode cX12_feed 84 = .ok (.bipush 8, 2) := by decide +kernel
theorem dX12_feed_86 : decode cX12_feed 86 = .ok (.iload 6, 2) := by decide +kernel
theorem dX12_feed_88 : decode cX12_feed 88 = .ok (.iconst 4, 1) := by decide +kernel
theorem dX12_feed_89 : decode cX12_feed 89 = .ok (.irem, 1) := by decide +kernel
theorem dX12_feed_90 : decode cX12_feed 90 = .ok (.imul, 1) := by decide +kernel
theorem dX12_feed_91 : decode cX12_feed 91 = .ok (.isub, 1) := by decide +kernel
theorem dX12_feed_92 : decode cX12_feed 92 = .ok (.ishr, 1) := by decide +kernel
theorem dX12_feed_93 : decode cX12_feed 93 = .ok (.i2b, 1) := by decide +kernel
theorem dX12_feed_94 : decode cX12_feed 94 = .ok (.bastore, 1) := by decide +kernel
theorem dX12_feed_95 : decode cX12_feed 95 = .ok (.iinc 6 1, 3) := by decide +kernel
theorem dX12_feed_98 : decode cX12_feed 98 = .ok (.goto (-43), 3) := by decide +kernel
theorem dX12_feed_101 : decode cX12_feed 101 = .ok (.aload_n 0, 1) := by decide +kernel
theorem dX12_feed_102 : decode cX12_feed 102 = .ok (.dup, 1) := by decide +kernel
theorem dX12_feed_103 : decode cX12_feed 103 = .ok (.getfield 82, 3) := by decide +kernel
theorem dX12_feed_106 : decode cX12_feed 106 = .ok (.bipush 20, 2) := by decide +kernel
theorem dX12_feed_108 : decode cX12_feed 108 = .ok (.iadd, 1) := by decide +kernel
theorem dX12_feed_109 : decode cX12_feed 109 = .ok (.putfield 82, 3) := by decide +kernel
theorem dX12_feed_112 : decode cX12_feed 112 = .ok (.aload_n 0, 1) := by decide +kernel
theorem dX12_feed_113 : decode cX12_feed 113 = .ok (.getfield 82, 3) := by decide +kernel
theorem dX12_feed_116 : decode cX12_feed 116 = .ok (.ireturn, 1) := by decide +kernel
set_option maxRecDepth 20000 in
theorem ggX12_end_X12_in : GoodIn wsX12_end wsX12_in := goodIn_r _ [5] (by decide +kernel) (by decide +kernel)
set_option maxRecDepth 20000 in
theorem gX12_end_X12_in : GoodIn wsX12_end (va_wsS RX12 76 yX12_in wsX12_in) := goodIn_app (goodIn_of _ (by decide +kernel)) ggX12_end_X12_in
theorem dX12_end_0 : decode cX12_end 0 = .ok (.iload_n 1, 1) := by decide +kernel
theorem dX12_end_1 : decode cX12_end 1 = .ok (.i2l, 1) := by decide +kernel
theorem dX12_end_2 : decode cX12_end 2 = .ok (.lconst 0, 1) := by decide +kernel
theorem dX12_end_3 : decode cX12_end 3 = .ok (.aload_n 0, 1) := by decide +kernel
theorem dX12_end_4 : decode cX12_end 4 = .ok (.getfield 82, 3) := by decide +kernel
theorem dX12_end_7 : decode cX12_end 7 = .ok (.i2l, 1) := by decide +kernel
theorem dX12_end_8 : decode cX12_end 8 = .ok (.invokestatic 76, 3) := by decide +kernel
theorem dX12_end_11 : decode cX12_end 11 = .ok (.ifCond .ne 5, 3) := by decide +kernel
theorem dX12_end_14 : decode cX12_end 14 = .ok (.iconst (-1), 1) := by decide +kernel
theorem dX12_end_15 : decode cX12_end 15 = .ok (.ireturn, 1) := by decide +kernel
theorem dX12_end_16 : decode cX12_end 16 = .ok (.aload_n 0, 1) := by decide +kernel
theorem dX12_end_17 : decode cX12_end 17 = .ok (.iload_n 1, 1) := by decide +kernel
theorem dX12_end_18 : decode cX12_end 18 = .ok (.putfield 82, 3) := by decide +kernel
theorem dX12_end_21 : decode cX12_end 21 = .ok (.iload_n 1, 1) := by decide +kernel
theorem dX12_end_22 : decode cX12_end 22 = .ok (.ireturn, 1) := by decide +kernel
theorem dX12_see_0 : decode cX12_see 0 = .ok (.iload_n 1, 1) := by decide +kernel
theorem dX12_see_1 : decode cX12_see 1 = .ok (.aload_n 0, 1) := by decide +kernel
theorem dX12_see_2 : decode cX12_see 2 = .ok (.getfield 85, 3) := by decide +kernel
theorem dX12_see_5 : decode cX12_see 5 = .ok (.if_icmp .ge 16, 3) := by decide +kernel
theorem dX12_see_8 : decode cX12_see 8 = .ok (.aload_n 0, 1) := by decide +kernel
theorem dX12_see_9 : decode cX12_see 9 = .ok (.getfield 24, 3) := by decide +kernel
theorem dX12_see_12 : decode cX12_see 12 = .ok (.iload_n 1, 1) := by decide +kernel
theorem dX12_see_13 : decode cX12_see 13 = .ok (.baload, 1) := by decide +kernel
theorem dX12_see_14 : decode cX12_see 14 = .ok (.sipush 255, 3) := by decide +kernel
theorem dX12_see_17 : decode cX12_see 17 = .ok (.iand, 1) := by decide +kernel
theorem dX12_see_18 : decode cX12_see 18 = .ok (.goto 4, 3) := by decide +kernel
theorem dX12_see_21 : decode cX12_see 21 = .ok (.iconst (-1), 1) := by decide +kernel
theorem dX12_see_22 : decode cX12_see 22 = .ok (.ireturn, 1) := by decide +kernel
set_option maxRecDepth 20000 in
theorem ggX12_advance_X12_see : GoodIn wsX12_advance wsX12_see := goodIn_r _ [18, 19, 20, 24, 25, 26, 27, 28, 29, 30, 31, 32, 33, 34, 35, 36, 37, 38, 39, 40, 41, 42, 43, 44, 45, 46, 47, 48, 49, 50, 51, 52, 53, 54, 55, 56, 57] (by decide +kernel) (by decide +kernel)
set_option maxRecDepth 20000 in
theorem gX12_advance_X12_see : GoodIn wsX12_advance (wsV RX12 91 RX12 yX12_see wsX12_see) := goodIn_app (goodIn_of _ (by decide +kernel)) ggX12_advance_X12_see
set_option maxRecDepth 20000 in
theorem ggX12_advance_X12_in : GoodIn wsX12_advance wsX12_in := goodIn_r _ [23] (by decide +kernel) (by decide +kernel)
set_option maxRecDepth 20000 in
theorem gX12_advance_X12_in : GoodIn wsX12_advance (va_wsS RX12 76 yX12_in wsX12_in) := goodIn_app (goodIn_of _ (by decide +kernel)) ggX12_advance_X12_in
theorem dX12_advance_0 : decode cX12_advance 0 = .ok (.aload_n 0, 1) := by decide +kernel
theorem dX12_advance_1 : decode cX12_advance 1 = .ok (.aload_n 0, 1) := by decide +kernel
theorem dX12_advance_2 : decode cX12_advance 2 = .ok (.getfield 88, 3) := by decide +kernel
theorem dX12_advance_5 : decode cX12_advance 5 = .ok (.invokevirtual 91, 3) := by decide +kernel
theorem dX12_advance_8 : decode cX12_advance 8 = .ok (.bipush 32, 2) := by decide +kernel
theorem dX12_advance_10 : decode cX12_advance 10 = .ok (.if_icmp .eq 16, 3) := by decide +kernel
theorem dX12_advance_13 : decode cX12_advance 13 = .ok (.aload_n 0, 1) := by decide +kernel
theorem dX12_advance_14 : decode cX12_advance 14 = .ok (.aload_n 0, 1) := by decide +kernel
theorem dX12_advance_15 : decode cX12_advance 15 = .ok (.getfield 88, 3) := by decide +kernel
theorem dX12_advance_18 : decode cX12_advance 18 = .ok (.invokevirtual 91, 3) := by decide +kernel
theorem dX12_advance_21 : decode cX12_advance 21 = .ok (.bipush 10, 2) := by decide +kernel
theorem dX12_advance_23 : decode cX12_advance 23 = .ok (.if_icmp .ne 16, 3) := by decide +kernel
theorem dX12_advance_26 : decode cX12_advance 26 = .ok (.aload_n 0, 1) := by decide +kernel
theorem dX12_advance_27 : decode cX12_advance 27 = .ok (.dup, 1) := by decide +kernel
theorem dX12_advance_28 : decode cX12_advance 28 = .ok (.getfield 88, 3) := by decide +kernel
theorem dX12_advance_31 : decode cX12_advance 31 = .ok (.iconst 1, 1) := by decide +kernel
theorem dX12_advance_32 : decode cX12_advance 32 = .ok (.iadd, 1) := by decide +kernel
theorem dX12_advance_33 : decode cX12_advance 33 = .ok (.putfield 88, 3) := by decide +kernel
theorem dX12_advance_36 : decode cX12_advance 36 = .ok (.goto (-36), 3) := by decide +kernel
theorem dX12_advance_39 : decode cX12_advance 39 = .ok (.aload_n 0, 1) := by decide +kernel
theorem dX12_advance_40 : decode cX12_advance 40 = .ok (.aload_n 0, 1) := by decide +kernel
theorem dX12_advance_41 : decode cX12_advance 41 = .ok (.getfield 88, 3) := by decide +kernel
theorem dX12_advance_44 : decode cX12_advance 44 = .ok (.putfield 95, 3) := by decide +kernel
theorem dX12_advance_47 : decode cX12_advance 47 = .ok (.aload_n 0, 1) := by decide +kernel
theorem dX12_advance_48 : decode cX12_advance 48 = .ok (.aload_n 0, 1) := by decide +kernel
theorem dX12_advance_49 : decode cX12_advance 49 = .ok (.getfield 88, 3) := by decide +kernel
theorem dX12_advance_52 : decode cX12_advance 52 = .ok (.invokevirtual 91, 3) := by decide +kernel
theorem dX12_advance_55 : decode cX12_advance 55 = .ok (.istore_n 1, 1) := by decide +kernel
theorem dX12_advance_56 : decode cX12_advance 56 = .ok (.iload_n 1, 1) := by decide +kernel
theorem dX12_advance_57 : decode cX12_advance 57 = .ok (.iconst (-1), 1) := by decide +kernel
theorem dX12_advance_58 : decode cX12_advance 58 = .ok (.if_icmp .ne 11, 3) := by decide +kernel
theorem dX12_advance_61 : decode cX12_advance 61 = .ok (.aload_n 0, 1) := by decide +kernel
theorem dX12_advance_62 : decode cX12_advance 62 = .ok (.iconst 0, 1) := by decide +kernel
theorem dX12_advance_63 : decode cX12_advance 63 = .ok (.putfield 98, 3) := by decide +kernel
theorem dX12_advance_66 : decode cX12_advance 66 = .ok (.goto 173, 3) := by decide +kernel
theorem dX12_advance_69 : decode cX12_advance 69 = .ok (.iload_n 1, 1) := by decide +kernel
theorem dX12_advance_70 : decode cX12_advance 70 = .ok (.i2l, 1) := by decide +kernel
theorem dX12_advance_71 : decode cX12_advance 71 = .ok (.ldc2_w 101, 3) := by decide +kernel
theorem dX12_advance_74 : decode cX12_advance 74 = .ok (.ldc2_w 103, 3) := by decide +kernel
theorem dX12_advance_77 : decode cX12_advance 77 = .ok (.invokestatic 76, 3) := by decide +kernel
theorem dX12_advance_80 : decode cX12_advance 80 = .ok (.ifCond .eq 45, 3) := by decide +kernel
theorem dX12_advance_83 : decode cX12_advance 83 = .ok (.aload_n 0, 1) := by decide +kernel
theorem dX12_advance_84 : decode cX12_advance 84 = .ok (.aload_n 0, 1) := by decide +kernel
theorem dX12_advance_85 : decode cX12_advance 85 = .ok (.getfield 88, 3) := by decide +kernel
theorem dX12_advance_88 : decode cX12_advance 88 = .ok (.invokevirtual 91, 3) := by decide +kernel
theorem dX12_advance_91 : decode cX12_advance 91 = .ok (.i2l, 1) := by decide +kernel
theorem dX12_advance_92 : decode cX12_advance 92 = .ok (.ldc2_w 101, 3) := by decide +kernel
theorem dX12_advance_95 : decode cX12_advance 95 = .ok (.ldc2_w 103, 3) := by decide +kernel
theorem dX12_advance_98 : decode cX12_advance 98 = .ok (.invokestatic 76, 3) := by decide +kernel
theorem dX12_advance_101 : decode cX12_advance 101 = .ok (.ifCond .eq 16, 3) := by decide +kernel
theorem dX12_advance_104 : decode cX12_advance 104 = .ok (.aload_n 0, 1) := by decide +kernel
theorem dX12_advance_105 : decode cX12_advance 105 = .ok (.dup, 1) := by decide +kernel
theorem dX12_advance_106 : decode cX12_advance 106 = .ok (.getfield 88, 3) := by decide +kernel
theorem dX12_advance_109 : decode cX12_advance 109 = .ok (.iconst 1, 1) := by decide +kernel
theorem dX12_advance_110 : decode cX12_advance 110 = .ok (.iadd, 1) := by decide +kernel
theorem dX12_advance_111 : decode cX12_advance 111 = .ok (.putfield 88, 3) := by decide +kernel
theorem dX12_advance_114 : decode cX12_advance 114 = .ok (.goto (-31), 3) := by decide +kernel
theorem dX12_advance_117 : decode cX12_advance 117 = .ok (.aload_n 0, 1) := by decide +kernel
theorem dX12_advance_118 : decode cX12_advance 118 = .ok (.iconst 1, 1) := by decide +kernel
theorem dX12_advance_119 : decode cX12_advance 119 = .ok (.putfield 98, 3) := by decide +kernel
theorem dX12_advance_122 : decode cX12_advance 122 = .ok (.goto 117, 3) := by decide +kernel
theorem dX12_advance_125 : decode cX12_advance 125 = .ok (.iload_n 1, 1) := by decide +kernel
theorem dX12_advance_126 : decode cX12_advance 126 = .ok (.i2l, 1) := by decide +kernel
theorem dX12_advance_127 : decode cX12_advance 127 = .ok (.ldc2_w 105, 3) := by decide +kernel
theorem dX12_advance_130 : decode cX12_advance 130 = .ok (.ldc2_w 107, 3) := by decide +kernel
theorem dX12_advance_133 : decode cX12_advance 133 = .ok (.invokestatic 76, 3) := by decide +kernel
theorem dX12_advance_136 : decode cX12_advance 136 = .ok (.ifCond .eq 78, 3) := by decide +kernel
theorem dX12_advance_139 : decode cX12_advance 139 = .ok (.aload_n 0, 1) := by decide +kernel
theorem dX12_advance_140 : decode cX12_advance 140 = .ok (.iconst 0, 1) := by decide +kernel
theorem dX12_advance_141 : decode cX12_advance 141 = .ok (.putfield 109, 3) := by decide +kernel
theorem dX12_advance_144 : decode cX12_advance 144 = .ok (.aload_n 0, 1) := by decide +kernel
theorem dX12_advance_145 : decode cX12_advance 145 = .ok (.aload_n 0, 1) := by decide +kernel
theorem dX12_advance_146 : decode cX12_advance 146 = .ok (.getfield 88, 3) := by decide +kernel
theorem dX12_advance_149 : decode cX12_advance 149 = .ok (.invokevirtual 91, 3) := by decide +kernel
theorem dX12_advance_152 : decode cX12_advance 152 = .ok (.i2l, 1) := by decide +kernel
theorem dX12_advance_153 : decode cX12_advance 153 = .ok (.ldc2_w 105, 3) := by decide +kernel
theorem dX12_advance_156 : decode cX12_advance 156 = .ok (.ldc2_w 107, 3) := by decide +kernel
theorem dX12_advance_159 : decode cX12_advance 159 = .ok (.invokestatic 76, 3) := by decide +kernel
theorem dX12_advance_162 : decode cX12_advance 162 = .ok (.ifCond .eq 44, 3) := by decide +kernel
theorem dX12_advance_165 : decode cX12_advance 165 = .ok (.aload_n 0, 1) := by decide +kernel
theorem dX12_advance_166 : decode cX12_advance 166 = .ok (.ldc 112, 2) := by decide +kernel
theorem dX12_advance_168 : decode cX12_advance 168 = .ok (.bipush 10, 2) := by decide +kernel
theorem dX12_advance_170 : decode cX12_advance 170 = .ok (.aload_n 0, 1) := by decide +kernel
theorem dX12_advance_171 : decode cX12_advance 171 = .ok (.getfield 109, 3) := by decide +kernel
theorem dX12_advance_174 : decode cX12_advance 174 = .ok (.imul, 1) := by decide +kernel
theorem dX12_advance_175 : decode cX12_advance 175 = .ok (.aload_n 0, 1) := by decide +kernel
theorem dX12_advance_176 : decode cX12_advance 176 = .ok (.aload_n 0, 1) := by decide +kernel
theorem dX12_advance_177 : decode cX12_advance 177 = .ok (.getfield 88, 3) := by decide +kernel
theorem dX12_advance_180 : decode cX12_advance 180 = .ok (.invokevirtual 91, 3) := by decide +kernel
theorem dX12_advance_183 : decode cX12_advance 183 = .ok (.iadd, 1) := by decide +kernel
theorem dX12_advance_184 : decode cX12_advance 184 = .ok (.bipush 48, 2) := by decide +kernel
theorem dX12_advance_186 : decode cX12_advance 186 = .ok (.isub, 1) := by decide +kernel
theorem dX12_advance_187 : decode cX12_advance 187 = .ok (.invokestatic 113, 3) := by decide +kernel
theorem dX12_advance_190 : decode cX12_advance 190 = .ok (.putfield 109, 3) := by decide +kernel
theorem dX12_advance_193 : decode cX12_advance 193 = .ok (.aload_n 0, 1) := by decide +kernel
theorem dX12_advance_194 : decode cX12_advance 194 = .ok (.dup, 1) := by decide +kernel
theorem dX12_advance_195 : decode cX12_advance 195 = .ok (.getfield 88, 3) := by decide +kernel
theorem dX12_advance_198 : decode cX12_advance 198 = .ok (.iconst 1, 1) := by decide +kernel
theorem dX12_advance_199 : decode cX12_advance 199 = .ok (.iadd, 1) := by decide +kernel
theorem dX12_advance_200 : decode cX12_advance 200 = .ok (.putfield 88, 3) := by decide +kernel
theorem dX12_advance_203 : decode cX12_advance 203 = .ok (.goto (-59), 3) := by decide +kernel
theorem dX12_advance_206 : decode cX12_advance 206 = .ok (.aload_n 0, 1) := by decide +kernel
theorem dX12_advance_207 : decode cX12_advance 207 = .ok (.iconst 2, 1) := by decide +kernel
theorem dX12_advance_208 : decode cX12_advance 208 = .ok (.putfield 98, 3) := by decide +kernel
theorem dX12_advance_211 : decode cX12_advance 211 = .ok (.goto 28, 3) := by decide +kernel
theorem dX12_advance_214 : decode cX12_advance 214 = .ok (.aload_n 0, 1) := by decide +kernel
theorem dX12_advance_215 : decode cX12_advance 215 = .ok (.iload_n 1, 1) := by decide +kernel
theorem dX12_advance_216 : decode cX12_advance 216 = .ok (.bipush 59, 2) := by decide +kernel
theorem dX12_advance_218 : decode cX12_advance 218 = .ok (.if_icmp .ne 7, 3) := by decide +kernel
theorem dX12_advance_221 : decode cX12_advance 221 = .ok (.iconst 3, 1) := by decide +kernel
theorem dX12_advance_222 : decode cX12_advance 222 = .ok (.goto 4, 3) := by decide +kernel
theorem dX12_advance_225 : decode cX12_advance 225 = .ok (.iconst 4, 1) := by decide +kernel
theorem dX12_advance_226 : decode cX12_advance 226 = .ok (.putfield 98, 3) := by decide +kernel
theorem dX12_advance_229 : decode cX12_advance 229 = .ok (.aload_n 0, 1) := by decide +kernel
theorem dX12_advance_230 : decode cX12_advance 230 = .ok (.dup, 1) := by decide +kernel
theorem dX12_advance_231 : decode cX12_advance 231 = .ok (.getfield 88, 3) := by decide +kernel
theorem dX12_advance_234 : decode cX12_advance 234 = .ok (.iconst 1, 1) := by decide +kernel
theorem dX12_advance_235 : decode cX12_advance 235 = .ok (.iadd, 1) := by decide +kernel
theorem dX12_advance_236 : decode cX12_advance 236 = .ok (.putfield 88, 3) := by decide +kernel
theorem dX12_advance_239 : decode cX12_advance 239 = .ok (.return_, 1) := by decide +kernel
theorem dX12_good_0 : decode cX12_good 0 = .ok (.aload_n 0, 1) := by decide +kernel
theorem dX12_good_1 : decode cX12_good 1 = .ok (.getfield 119, 3) := by decide +kernel
theorem dX12_good_4 : decode cX12_good 4 = .ok (.ifCond .ne 7, 3) := by decide +kernel
theorem dX12_good_7 : decode cX12_good 7 = .ok (.iconst 1, 1) := by decide +kernel
theorem dX12_good_8 : decode cX12_good 8 = .ok (.goto 4, 3) := by decide +kernel
theorem dX12_good_11 : decode cX12_good 11 = .ok (.iconst 0, 1) := by decide +kernel
theorem dX12_good_12 : decode cX12_good 12 = .ok (.ireturn, 1) := by decide +kernel
set_option maxRecDepth 20000 in
theorem ggX12_errs_X12_good : GoodIn wsX12_errs wsX12_good := goodIn_r _ [8, 1, 9, 10, 11, 12, 13, 14, 15, 16, 17, 18, 19, 20, 21, 22, 23, 24, 25, 26, 27, 28, 29, 30, 31, 32, 33, 34, 35, 36, 37, 38, 39, 40, 41, 42] (by decide +kernel) (by decide +kernel)
set_option maxRecDepth 20000 in
theorem gX12_errs_X12_good : GoodIn wsX12_errs (wsV RX12 122 RX12 yX12_good wsX12_good) := goodIn_app (goodIn_of _ (by decide +kernel)) ggX12_errs_X12_good
theorem dX12_errs_0 : decode cX12_errs 0 = .ok (.aload_n 0, 1) := by decide +kernel
theorem dX12_errs_1 : decode cX12_errs 1 = .ok (.invokevirtual 122, 3) := by decide +kernel
theorem dX12_errs_4 : decode cX12_errs 4 = .ok (.ifCond .ne 4, 3) := by decide +kernel
theorem dX12_errs_7 : decode cX12_errs 7 = .ok (.return_, 1) := by decide +kernel
theorem dX12_errs_8 : decode cX12_errs 8 = .ok (.aload_n 0, 1) := by decide +kernel
theorem dX12_errs_9 : decode cX12_errs 9 = .ok (.iload_n 1, 1) := by decide +kernel
theorem dX12_errs_10 : decode cX12_errs 10 = .ok (.putfield 119, 3) := by decide +kernel
theorem dX12_errs_13 : decode cX12_errs 13 = .ok (.aload_n 0, 1) := by decide +kernel
theorem dX12_errs_14 : decode cX12_errs 14 = .ok (.aload_n 0, 1) := by decide +kernel
theorem dX12_errs_15 : decode cX12_errs 15 = .ok (.getfield 95, 3) := by decide +kernel
theorem dX12_errs_18 : decode cX12_errs 18 = .ok (.putfield 31, 3) := by decide +kernel
theorem dX12_errs_21 : decode cX12_errs 21 = .ok (.return_, 1) := by decide +kernel
set_option maxRecDepth 20000 in
theorem ggX12_is_X12_good : GoodIn wsX12_is wsX12_good := goodIn_r _ [9, 10, 60, 61, 62, 63, 64, 65, 66, 67, 68, 69, 70, 71, 72, 73, 74, 75, 76, 77, 78, 79, 80, 81, 82, 83, 84, 85, 86, 87, 88, 89, 90, 91, 92, 93] (by decide +kernel) (by decide +kernel)
set_option maxRecDepth 20000 in
theorem gX12_is_X12_good : GoodIn wsX12_is (wsV RX12 122 RX12 yX12_good wsX12_good) := goodIn_app (goodIn_of _ (by decide +kernel)) ggX12_is_X12_good
set_option maxRecDepth 20000 in
theorem ggX12_is_J0_length_8abf5 : GoodIn wsX12_is wsJ0_length_8abf5 := goodIn_r _ [15, 16, 17, 18, 19, 14, 20, 21, 22] (by decide +kernel) (by decide +kernel)
set_option maxRecDepth 20000 in
theorem gX12_is_J0_length_8abf5 : GoodIn wsX12_is (wsV RX12 126 RJ0 yJ0_length_8abf5 wsJ0_length_8abf5) := goodIn_app (goodIn_of _ (by decide +kernel)) ggX12_is_J0_length_8abf5
set_option maxRecDepth 20000 in
theorem ggX12_is_J0_charAt_5068e : GoodIn wsX12_is wsJ0_charAt_5068e := goodIn_r _ [26, 16, 27, 28, 29, 14, 30, 21, 22, 31, 32, 33, 34, 35, 36, 37, 38, 39, 40, 41, 42, 43, 44, 45, 46, 47, 48, 49, 50, 51, 52, 53, 54, 55, 56, 57, 58, 59] (by decide +kernel) (by decide +kernel)
set_option maxRecDepth 20000 in
theorem gX12_is_J0_charAt_5068e : GoodIn wsX12_is (wsV RX12 132 RJ0 yJ0_charAt_5068e wsJ0_charAt_5068e) := goodIn_app (goodIn_of _ (by decide +kernel)) ggX12_is_J0_charAt_5068e
theorem dX12_is_0 : decode cX12_is 0 = .ok (.aload_n 0, 1) := by decide +kernel
theorem dX12_is_1 : decode cX12_is 1 = .ok (.invokevirtual 122, 3) := by decide +kernel
theorem dX12_is_4 : decode cX12_is 4 = .ok (.ifCond .eq 31, 3) := by decide +kernel
theorem dX12_is_7 : decode cX12_is 7 = .ok (.aload_n 0, 1) := by decide +kernel
theorem dX12_is_8 : decode cX12_is 8 = .ok (.getfield 98, 3) := by decide +kernel
theorem dX12_is_11 : decode cX12_is 11 = .ok (.iconst 1, 1) := by decide +kernel
theorem dX12_is_12 : decode cX12_is 12 = .ok (.if_icmp .ne 23, 3) := by decide +kernel
theorem dX12_is_15 : decode cX12_is 15 = .ok (.aload_n 0, 1) := by decide +kernel
theorem dX12_is_16 : decode cX12_is 16 = .ok (.getfield 88, 3) := by decide +kernel
theorem dX12_is_19 : decode cX12_is 19 = .ok (.aload_n 0, 1) := by decide +kernel
theorem dX12_is_20 : decode cX12_is 20 = .ok (.getfield 95, 3) := by decide +kernel
theorem dX12_is_23 : decode cX12_is 23 = .ok (.isub, 1) := by decide +kernel
theorem dX12_is_24 : decode cX12_is 24 = .ok (.aload_n 1, 1) := by decide +kernel
theorem dX12_is_25 : decode cX12_is 25 = .ok (.invokevirtual 126, 3) := by decide +kernel
theorem dX12_is_28 : decode cX12_is 28 = .ok (.if_icmp .ne 7, 3) := by decide +kernel
theorem dX12_is_31 : decode cX12_is 31 = .ok (.iconst 1, 1) := by decide +kernel
theorem dX12_is_32 : decode cX12_is 32 = .ok (.goto 4, 3) := by decide +kernel
theorem dX12_is_35 : decode cX12_is 35 = .ok (.iconst 0, 1) := by decide +kernel
theorem dX12_is_36 : decode cX12_is 36 = .ok (.istore_n 2, 1) := by decide +kernel
theorem dX12_is_37 : decode cX12_is 37 = .ok (.iconst 0, 1) := by decide +kernel
theorem dX12_is_38 : decode cX12_is 38 = .ok (.istore_n 3, 1) := by decide +kernel
theorem dX12_is_39 : decode cX12_is 39 = .ok (.iload_n 3, 1) := by decide +kernel
theorem dX12_is_40 : decode cX12_is 40 = .ok (.aload_n 1, 1) := by decide +kernel
theorem dX12_is_41 : decode cX12_is 41 = .ok (.invokevirtual 126, 3) := by decide +kernel
theorem dX12_is_44 : decode cX12_is 44 = .ok (.if_icmp .ge 38, 3) := by decide +kernel
theorem dX12_is_47 : decode cX12_is 47 = .ok (.iload_n 2, 1) := by decide +kernel
theorem dX12_is_48 : decode cX12_is 48 = .ok (.ifCond .eq 34, 3) := by decide +kernel
theorem dX12_is_51 : decode cX12_is 51 = .ok (.aload_n 0, 1) := by decide +kernel
theorem dX12_is_52 : decode cX12_is 52 = .ok (.getfield 24, 3) := by decide +kernel
theorem dX12_is_55 : decode cX12_is 55 = .ok (.aload_n 0, 1) := by decide +kernel
theorem dX12_is_56 : decode cX12_is 56 = .ok (.getfield 95, 3) := by decide +kernel
theorem dX12_is_59 : decode cX12_is 59 = .ok (.iload_n 3, 1) := by decide +kernel
theorem dX12_is_60 : decode cX12_is 60 = .ok (.iadd, 1) := by decide +kernel
theorem dX12_is_61 : decode cX12_is 61 = .ok (.baload, 1) := by decide +kernel
theorem dX12_is_62 : decode cX12_is 62 = .ok (.aload_n 1, 1) := by decide +kernel
theorem dX12_is_63 : decode cX12_is 63 = .ok (.iload_n 3, 1) := by decide +kernel
theorem dX12_is_64 : decode cX12_is 64 = .ok (.invokevirtual 132, 3) := by decide +kernel
theorem dX12_is_67 : decode cX12_is 67 = .ok (.if_icmp .ne 7, 3) := by decide +kernel
theorem dX12_is_70 : decode cX12_is 70 = .ok (.iconst 1, 1) := by decide +kernel
theorem dX12_is_71 : decode cX12_is 71 = .ok (.goto 4, 3) := by decide +kernel
theorem dX12_is_74 : decode cX12_is 74 = .ok (.iconst 0, 1) := by decide +kernel
theorem dX12_is_75 : decode cX12_is 75 = .ok (.istore_n 2, 1) := by decide +kernel
theorem dX12_is_76 : decode cX12_is 76 = .ok (.iinc 3 1, 3) := by decide +kernel
theorem dX12_is_79 : decode cX12_is 79 = .ok (.goto (-40), 3) := by decide +kernel
theorem dX12_is_82 : decode cX12_is 82 = .ok (.iload_n 2, 1) := by decide +kernel
theorem dX12_is_83 : decode cX12_is 83 = .ok (.ireturn, 1) := by decide +kernel
set_option maxRecDepth 20000 in
theorem ggX12_takes_X12_is : GoodIn wsX12_takes wsX12_is := goodIn_r _ [5, 6, 7, 8, 9, 10, 11, 12, 4, 13, 14, 15, 16, 17, 18, 19, 20, 21, 22, 23, 24, 25, 26, 27, 28, 29, 30, 31, 32, 33, 34, 35, 36, 37, 38, 39, 40, 41, 42, 43, 44, 45, 46, 47, 48, 49, 50, 51, 52, 53, 54, 55, 56, 57, 58, 59, 60, 61, 62, 63, 86, 87, 88, 89, 90, 91, 92, 93, 94, 95, 96, 97, 98, 99, 100, 101, 102, 103, 104, 105, 106, 107, 108, 109, 110, 111, 112, 113, 114, 115, 116, 117, 118, 119] (by decide +kernel) (by decide +kernel)
set_option maxRecDepth 20000 in
theorem gX12_takes_X12_is : GoodIn wsX12_takes (wsV RX12 136 RX12 yX12_is wsX12_is) := goodIn_app (goodIn_of _ (by decide +kernel)) ggX12_takes_X12_is
set_option maxRecDepth 20000 in
theorem ggX12_takes_X12_advance : GoodIn wsX12_takes wsX12_advance := goodIn_r _ [67, 7, 8, 6, 68, 69, 70, 71, 72, 73, 74, 75, 76, 77, 78, 79, 80, 4, 81, 82, 9, 83, 84, 85, 86, 87, 88, 89, 90, 91, 92, 93, 94, 95, 96, 97, 98, 99, 100, 101, 102, 103, 104, 105, 106, 107, 108, 109, 110, 111, 112, 113, 114, 115, 116, 117, 118, 119] (by decide +kernel) (by decide +kernel)
set_option maxRecDepth 20000 in
theorem gX12_takes_X12_advance : GoodIn wsX12_takes (wsV RX12 140 RX12 yX12_advance wsX12_advance) := goodIn_app (goodIn_of _ (by decide +kernel)) ggX12_takes_X12_advance
theorem dX12_takes_0 : decode cX12_takes 0 = .ok (.aload_n 0, 1) := by decide +kernel
theorem dX12_takes_1 : decode cX12_takes 1 = .ok (.aload_n 1, 1) := by decide +kernel
theorem dX12_takes_2 : decode cX12_takes 2 = .ok (.invokevirtual 136, 3) := by decide +kernel
theorem dX12_takes_5 : decode cX12_takes 5 = .ok (.istore_n 2, 1) := by decide +kernel
theorem dX12_takes_6 : decode cX12_takes 6 = .ok (.iload_n 2, 1) := by decide +kernel
theorem dX12_takes_7 : decode cX12_takes 7 = .ok (.ifCond .eq 7, 3) := by decide +kernel
theorem dX12_takes_10 : decode cX12_takes 10 = .ok (.aload_n 0, 1) := by decide +kernel
theorem dX12_takes_11 : decode cX12_takes 11 = .ok (.invokevirtual 140, 3) := by decide +kernel
theorem dX12_takes_14 : decode cX12_takes 14 = .ok (.iload_n 2, 1) := by decide +kernel
theorem dX12_takes_15 : decode cX12_takes 15 = .ok (.ireturn, 1) := by decide +kernel
set_option maxRecDepth 20000 in
theorem ggX12_needsWord_X12_takes : GoodIn wsX12_needsWord wsX12_takes := goodIn_r _ [5, 6, 7, 8, 4, 9, 10, 11, 12, 13, 14, 15, 16, 17, 18, 19, 20, 21, 22, 23, 24, 25, 26, 27, 28, 29, 30, 31, 32, 33, 34, 35, 36, 37, 38, 39, 40, 41, 42, 43, 44, 45, 46, 47, 48, 49, 50, 51, 52, 53, 54, 55, 56, 57, 58, 59, 60, 61, 62, 63, 64, 65, 66, 67, 68, 69, 70, 71, 72, 73, 74, 75, 76, 77, 78, 79, 80, 81, 82, 83, 84, 85, 86, 87, 88, 89, 95, 96, 97, 98, 99, 100, 101, 102, 103, 104, 105, 106, 107, 108, 109, 110, 111, 112, 113, 114, 115, 116, 117, 118, 119, 120, 121, 122, 123, 124, 125, 126, 127, 128] (by decide +kernel) (by decide +kernel)
set_option maxRecDepth 20000 in
theorem gX12_needsWord_X12_takes : GoodIn wsX12_needsWord (wsV RX12 143 RX12 yX12_takes wsX12_takes) := goodIn_app (goodIn_of _ (by decide +kernel)) ggX12_needsWord_X12_takes
set_option maxRecDepth 20000 in
theorem ggX12_needsWord_X12_errs : GoodIn wsX12_needsWord wsX12_errs := goodIn_r _ [93, 18, 12, 94, 14, 15, 16, 4, 17, 95, 96, 97, 98, 99, 100, 101, 102, 103, 104, 105, 106, 107, 108, 109, 110, 111, 112, 113, 114, 115, 116, 117, 118, 119, 120, 121, 122, 123, 124, 125, 126, 127, 128] (by decide +kernel) (by decide +kernel)
set_option maxRecDepth 20000 in
theorem gX12_needsWord_X12_errs : GoodIn wsX12_needsWord (wsV RX12 146 RX12 yX12_errs wsX12_errs) := goodIn_app (goodIn_of _ (by decide +kernel)) ggX12_needsWord_X12_errs
theorem dX12_needsWord_0 : decode cX12_needsWord 0 = .ok (.aload_n 0, 1) := by decide +kernel
theorem dX12_needsWord_1 : decode cX12_needsWord 1 = .ok (.aload_n 1, 1) := by decide +kernel
theorem dX12_needsWord_2 : decode cX12_needsWord 2 = .ok (.invokevirtual 143, 3) := by decide +kernel
theorem dX12_needsWord_5 : decode cX12_needsWord 5 = .ok (.ifCond .ne 8, 3) := by decide +kernel
theorem dX12_needsWord_8 : decode cX12_needsWord 8 = .ok (.aload_n 0, 1) := by decide +kernel
theorem dX12_needsWord_9 : decode cX12_needsWord 9 = .ok (.iconst 1, 1) := by decide +kernel
theorem dX12_needsWord_10 : decode cX12_needsWord 10 = .ok (.invokevirtual 146, 3) := by decide +kernel
theorem dX12_needsWord_13 : decode cX12_needsWord 13 = .ok (.return_, 1) := by decide +kernel
set_option maxRecDepth 20000 in
theorem ggX12_number_X12_good : GoodIn wsX12_number wsX12_good := goodIn_r _ [7, 8, 38, 39, 40, 41, 42, 43, 44, 45, 46, 47, 48, 49, 50, 51, 52, 53, 54, 55, 56, 57, 58, 59, 60, 61, 62, 63, 64, 65, 66, 67, 68, 69, 70, 71] (by decide +kernel) (by decide +kernel)
set_option maxRecDepth 20000 in
theorem gX12_number_X12_good : GoodIn wsX12_number (wsV RX12 122 RX12 yX12_good wsX12_good) := goodIn_app (goodIn_of _ (by decide +kernel)) ggX12_number_X12_good
set_option maxRecDepth 20000 in
theorem ggX12_number_X12_errs : GoodIn wsX12_number wsX12_errs := goodIn_r _ [12, 8, 13, 14, 3, 4, 5, 6, 7, 38, 39, 40, 41, 42, 43, 44, 45, 46, 47, 48, 49, 50, 51, 52, 53, 54, 55, 56, 57, 58, 59, 60, 61, 62, 63, 64, 65, 66, 67, 68, 69, 70, 71] (by decide +kernel) (by decide +kernel)
set_option maxRecDepth 20000 in
theorem gX12_number_X12_errs : GoodIn wsX12_number (wsV RX12 146 RX12 yX12_errs wsX12_errs) := goodIn_app (goodIn_of _ (by decide +kernel)) ggX12_number_X12_errs
set_option maxRecDepth 20000 in
theorem ggX12_number_X12_in : GoodIn wsX12_number wsX12_in := goodIn_r _ [17] (by decide +kernel) (by decide +kernel)
set_option maxRecDepth 20000 in
theorem gX12_number_X12_in : GoodIn wsX12_number (va_wsS RX12 76 yX12_in wsX12_in) := goodIn_app (goodIn_of _ (by decide +kernel)) ggX12_number_X12_in
set_option maxRecDepth 20000 in
theorem ggX12_number_X12_advance : GoodIn wsX12_number wsX12_advance := goodIn_r _ [21, 22, 13, 1, 23, 24, 25, 26, 2, 27, 28, 29, 30, 31, 32, 33, 34, 6, 35, 36, 37, 15, 16, 17, 38, 39, 40, 41, 42, 43, 44, 45, 46, 47, 48, 49, 50, 51, 52, 53, 54, 55, 56, 57, 58, 59, 60, 61, 62, 63, 64, 65, 66, 67, 68, 69, 70, 71] (by decide +kernel) (by decide +kernel)
set_option maxRecDepth 20000 in
theorem gX12_number_X12_advance : GoodIn wsX12_number (wsV RX12 140 RX12 yX12_advance wsX12_advance) := goodIn_app (goodIn_of _ (by decide +kernel)) ggX12_number_X12_advance
theorem dX12_number_0 : decode cX12_number 0 = .ok (.aload_n 0, 1) := by decide +kernel
theorem dX12_number_1 : decode cX12_number 1 = .ok (.invokevirtual 122, 3) := by decide +kernel
theorem dX12_number_4 : decode cX12_number 4 = .ok (.ifCond .eq 16, 3) := by decide +kernel
theorem dX12_number_7 : decode cX12_number 7 = .ok (.aload_n 0, 1) := by decide +kernel
theorem dX12_number_8 : decode cX12_number 8 = .ok (.getfield 98, 3) := by decide +kernel
theorem dX12_number_11 : decode cX12_number 11 = .ok (.iconst 2, 1) := by decide +kernel
theorem dX12_number_12 : decode cX12_number 12 = .ok (.if_icmp .eq 8, 3) := by decide +kernel
theorem dX12_number_15 : decode cX12_number 15 = .ok (.aload_n 0, 1) := by decide +kernel
theorem dX12_number_16 : decode cX12_number 16 = .ok (.iconst 1, 1) := by decide +kernel
theorem dX12_number_17 : decode cX12_number 17 = .ok (.invokevirtual 146, 3) := by decide +kernel
theorem dX12_number_20 : decode cX12_number 20 = .ok (.aload_n 0, 1) := by decide +kernel
theorem dX12_number_21 : decode cX12_number 21 = .ok (.invokevirtual 122, 3) := by decide +kernel
theorem dX12_number_24 : decode cX12_number 24 = .ok (.ifCond .eq 23, 3) := by decide +kernel
theorem dX12_number_27 : decode cX12_number 27 = .ok (.aload_n 0, 1) := by decide +kernel
theorem dX12_number_28 : decode cX12_number 28 = .ok (.getfield 109, 3) := by decide +kernel
theorem dX12_number_31 : decode cX12_number 31 = .ok (.i2l, 1) := by decide +kernel
theorem dX12_number_32 : decode cX12_number 32 = .ok (.iload_n 1, 1) := by decide +kernel
theorem dX12_number_33 : decode cX12_number 33 = .ok (.i2l, 1) := by decide +kernel
theorem dX12_number_34 : decode cX12_number 34 = .ok (.iload_n 2, 1) := by decide +kernel
theorem dX12_number_35 : decode cX12_number 35 = .ok (.i2l, 1) := by decide +kernel
theorem dX12_number_36 : decode cX12_number 36 = .ok (.invokestatic 76, 3) := by decide +kernel
theorem dX12_number_39 : decode cX12_number 39 = .ok (.ifCond .ne 8, 3) := by decide +kernel
theorem dX12_number_42 : decode cX12_number 42 = .ok (.aload_n 0, 1) := by decide +kernel
theorem dX12_number_43 : decode cX12_number 43 = .ok (.iconst 2, 1) := by decide +kernel
theorem dX12_number_44 : decode cX12_number 44 = .ok (.invokevirtual 146, 3) := by decide +kernel
theorem dX12_number_47 : decode cX12_number 47 = .ok (.aload_n 0, 1) := by decide +kernel
theorem dX12_number_48 : decode cX12_number 48 = .ok (.invokevirtual 122, 3) := by decide +kernel
theorem dX12_number_51 : decode cX12_number 51 = .ok (.ifCond .ne 5, 3) := by decide +kernel
theorem dX12_number_54 : decode cX12_number 54 = .ok (.iconst 0, 1) := by decide +kernel
theorem dX12_number_55 : decode cX12_number 55 = .ok (.ireturn, 1) := by decide +kernel
theorem dX12_number_56 : decode cX12_number 56 = .ok (.aload_n 0, 1) := by decide +kernel
theorem dX12_number_57 : decode cX12_number 57 = .ok (.getfield 109, 3) := by decide +kernel
theorem dX12_number_60 : decode cX12_number 60 = .ok (.istore_n 3, 1) := by decide +kernel
theorem dX12_number_61 : decode cX12_number 61 = .ok (.aload_n 0, 1) := by decide +kernel
theorem dX12_number_62 : decode cX12_number 62 = .ok (.invokevirtual 140, 3) := by decide +kernel
theorem dX12_number_65 : decode cX12_number 65 = .ok (.iload_n 3, 1) := by decide +kernel
theorem dX12_number_66 : decode cX12_number 66 = .ok (.ireturn, 1) := by decide +kernel
set_option maxRecDepth 20000 in
theorem ggX12_told_X12_needsWord : GoodIn wsX12_told wsX12_needsWord := goodIn_r _ [5, 6, 7, 8, 4, 9, 10, 11, 12, 13, 14, 15, 16, 17, 18, 19, 20, 21, 22, 23, 24, 25, 26, 27, 28, 29, 30, 31, 32, 33, 34, 35, 36, 37, 38, 39, 40, 41, 42, 43, 44, 45, 46, 47, 48, 49, 50, 51, 52, 53, 54, 55, 56, 57, 58, 59, 60, 61, 62, 63, 64, 65, 66, 67, 68, 69, 70, 71, 72, 73, 74, 75, 76, 77, 78, 79, 80, 81, 82, 83, 84, 85, 86, 87, 88, 89, 90, 91, 92, 93, 94, 95, 96, 97, 98, 103, 104, 105, 106, 107, 108, 109, 110, 111, 112, 113, 114, 115, 116, 117, 118, 119, 120, 121, 122, 123, 124, 125, 126, 127, 128, 129, 130, 131, 132, 133, 134, 135, 136] (by decide +kernel) (by decide +kernel)
set_option maxRecDepth 20000 in
theorem gX12_told_X12_needsWord : GoodIn wsX12_told (wsV RX12 150 RX12 yX12_needsWord wsX12_needsWord) := goodIn_app (goodIn_of _ (by decide +kernel)) ggX12_told_X12_needsWord
set_option maxRecDepth 20000 in
theorem ggX12_told_X12_number : GoodIn wsX12_told wsX12_number := goodIn_r _ [102, 14, 80, 18, 19, 20, 4, 21, 22, 94, 95, 96, 97, 16, 98, 91, 92, 93, 72, 73, 74, 75, 15, 76, 77, 78, 79, 81, 82, 83, 84, 85, 86, 87, 88, 89, 90, 17, 103, 104, 105, 106, 107, 108, 109, 110, 111, 112, 113, 114, 115, 116, 117, 118, 119, 120, 121, 122, 123, 124, 125, 126, 127, 128, 129, 130, 131, 132, 133, 134, 135, 136] (by decide +kernel) (by decide +kernel)
set_option maxRecDepth 20000 in
theorem gX12_told_X12_number : GoodIn wsX12_told (wsV RX12 154 RX12 yX12_number wsX12_number) := goodIn_app (goodIn_of _ (by decide +kernel)) ggX12_told_X12_number
theorem dX12_told_0 : decode cX12_told 0 = .ok (.aload_n 0, 1) := by decide +kernel
theorem dX12_told_1 : decode cX12_told 1 = .ok (.aload_n 1, 1) := by decide +kernel
theorem dX12_told_2 : decode cX12_told 2 = .ok (.invokevirtual 150, 3) := by decide +kernel
theorem dX12_told_5 : decode cX12_told 5 = .ok (.aload_n 0, 1) := by decide +kernel
theorem dX12_told_6 : decode cX12_told 6 = .ok (.iload_n 2, 1) := by decide +kernel
theorem dX12_told_7 : decode cX12_told 7 = .ok (.iload_n 3, 1) := by decide +kernel
theorem dX12_told_8 : decode cX12_told 8 = .ok (.invokevirtual 154, 3) := by decide +kernel
theorem dX12_told_11 : decode cX12_told 11 = .ok (.ireturn, 1) := by decide +kernel
set_option maxRecDepth 20000 in
theorem ggX12_taken_X12_errs : GoodIn wsX12_taken wsX12_errs := goodIn_r _ [5, 6, 7, 8, 9, 10, 11, 4, 12, 38, 39, 40, 41, 42, 43, 44, 45, 46, 47, 48, 49, 50, 51, 52, 53, 54, 55, 56, 57, 58, 59, 60, 61, 62, 63, 64, 65, 66, 67, 68, 69, 70, 71] (by decide +kernel) (by decide +kernel)
set_option maxRecDepth 20000 in
theorem gX12_taken_X12_errs : GoodIn wsX12_taken (wsV RX12 146 RX12 yX12_errs wsX12_errs) := goodIn_app (goodIn_of _ (by decide +kernel)) ggX12_taken_X12_errs
set_option maxRecDepth 20000 in
theorem ggX12_taken_X12_good : GoodIn wsX12_taken wsX12_good := goodIn_r _ [12, 6, 38, 39, 40, 41, 42, 43, 44, 45, 46, 47, 48, 49, 50, 51, 52, 53, 54, 55, 56, 57, 58, 59, 60, 61, 62, 63, 64, 65, 66, 67, 68, 69, 70, 71] (by decide +kernel) (by decide +kernel)
set_option maxRecDepth 20000 in
theorem gX12_taken_X12_good : GoodIn wsX12_taken (wsV RX12 122 RX12 yX12_good wsX12_good) := goodIn_app (goodIn_of _ (by decide +kernel)) ggX12_taken_X12_good
set_option maxRecDepth 20000 in
theorem ggX12_taken_X12_advance : GoodIn wsX12_taken wsX12_advance := goodIn_r _ [16, 17, 7, 18, 19, 20, 21, 22, 23, 24, 25, 26, 27, 28, 29, 30, 31, 4, 32, 33, 34, 35, 36, 37, 38, 39, 40, 41, 42, 43, 44, 45, 46, 47, 48, 49, 50, 51, 52, 53, 54, 55, 56, 57, 58, 59, 60, 61, 62, 63, 64, 65, 66, 67, 68, 69, 70, 71] (by decide +kernel) (by decide +kernel)
set_option maxRecDepth 20000 in
theorem gX12_taken_X12_advance : GoodIn wsX12_taken (wsV RX12 140 RX12 yX12_advance wsX12_advance) := goodIn_app (goodIn_of _ (by decide +kernel)) ggX12_taken_X12_advance
theorem dX12_taken_0 : decode cX12_taken 0 = .ok (.iload_n 1, 1) := by decide +kernel
theorem dX12_taken_1 : decode cX12_taken 1 = .ok (.iconst (-1), 1) := by decide +kernel
theorem dX12_taken_2 : decode cX12_taken 2 = .ok (.if_icmp .ne 8, 3) := by decide +kernel
theorem dX12_taken_5 : decode cX12_taken 5 = .ok (.aload_n 0, 1) := by decide +kernel
theorem dX12_taken_6 : decode cX12_taken 6 = .ok (.iconst 1, 1) := by decide +kernel
theorem dX12_taken_7 : decode cX12_taken 7 = .ok (.invokevirtual 146, 3) := by decide +kernel
theorem dX12_taken_10 : decode cX12_taken 10 = .ok (.aload_n 0, 1) := by decide +kernel
theorem dX12_taken_11 : decode cX12_taken 11 = .ok (.invokevirtual 122, 3) := by decide +kernel
theorem dX12_taken_14 : decode cX12_taken 14 = .ok (.ifCond .eq 7, 3) := by decide +kernel
theorem dX12_taken_17 : decode cX12_taken 17 = .ok (.aload_n 0, 1) := by decide +kernel
theorem dX12_taken_18 : decode cX12_taken 18 = .ok (.invokevirtual 140, 3) := by decide +kernel
theorem dX12_taken_21 : decode cX12_taken 21 = .ok (.iload_n 1, 1) := by decide +kernel
theorem dX12_taken_22 : decode cX12_taken 22 = .ok (.ireturn, 1) := by decide +kernel
theorem dX12_fault_0 : decode cX12_fault 0 = .ok (.iload_n 1, 1) := by decide +kernel
theorem dX12_fault_1 : decode cX12_fault 1 = .ok (.ifCond .ne 10, 3) := by decide +kernel
theorem dX12_fault_4 : decode cX12_fault 4 = .ok (.aload_n 0, 1) := by decide +kernel
theorem dX12_fault_5 : decode cX12_fault 5 = .ok (.getfield 119, 3) := by decide +kernel
theorem dX12_fault_8 : decode cX12_fault 8 = .ok (.goto 16, 3) := by decide +kernel
theorem dX12_fault_11 : decode cX12_fault 11 = .ok (.iload_n 1, 1) := by decide +kernel
theorem dX12_fault_12 : decode cX12_fault 12 = .ok (.iconst 1, 1) := by decide +kernel
theorem dX12_fault_13 : decode cX12_fault 13 = .ok (.if_icmp .ne 10, 3) := by decide +kernel
theorem dX12_fault_16 : decode cX12_fault 16 = .ok (.aload_n 0, 1) := by decide +kernel
theorem dX12_fault_17 : decode cX12_fault 17 = .ok (.getfield 31, 3) := by decide +kernel
theorem dX12_fault_20 : decode cX12_fault 20 = .ok (.goto 4, 3) := by decide +kernel
theorem dX12_fault_23 : decode cX12_fault 23 = .ok (.iconst (-1), 1) := by decide +kernel
theorem dX12_fault_24 : decode cX12_fault 24 = .ok (.ireturn, 1) := by decide +kernel
set_option maxRecDepth 20000 in
theorem ggX12_moveHere_X12_is : GoodIn wsX12_moveHere wsX12_is := goodIn_r _ [5, 6, 7, 8, 9, 10, 11, 12, 4, 13, 14, 15, 16, 17, 18, 19, 20, 21, 22, 23, 24, 25, 26, 27, 28, 29, 30, 31, 32, 33, 34, 35, 36, 37, 38, 39, 40, 41, 42, 43, 44, 45, 46, 47, 48, 49, 50, 51, 52, 53, 54, 55, 56, 57, 58, 59, 60, 61, 62, 63, 64, 65, 66, 67, 68, 69, 70, 71, 72, 73, 74, 75, 76, 77, 78, 79, 80, 81, 82, 83, 84, 85, 86, 87, 88, 89, 90, 91, 92, 93, 94, 95, 96, 97] (by decide +kernel) (by decide +kernel)
set_option maxRecDepth 20000 in
theorem gX12_moveHere_X12_is : GoodIn wsX12_moveHere (wsV RX12 136 RX12 yX12_is wsX12_is) := goodIn_app (goodIn_of _ (by decide +kernel)) ggX12_moveHere_X12_is
theorem dX12_moveHere_0 : decode cX12_moveHere 0 = .ok (.aload_n 0, 1) := by decide +kernel
theorem dX12_moveHere_1 : decode cX12_moveHere 1 = .ok (.ldc 157, 2) := by decide +kernel
theorem dX12_moveHere_3 : decode cX12_moveHere 3 = .ok (.invokevirtual 136, 3) := by decide +kernel
theorem dX12_moveHere_6 : decode cX12_moveHere 6 = .ok (.ifCond .eq 7, 3) := by decide +kernel
theorem dX12_moveHere_9 : decode cX12_moveHere 9 = .ok (.iconst 0, 1) := by decide +kernel
theorem dX12_moveHere_10 : decode cX12_moveHere 10 = .ok (.goto 30, 3) := by decide +kernel
theorem dX12_moveHere_13 : decode cX12_moveHere 13 = .ok (.aload_n 0, 1) := by decide +kernel
theorem dX12_moveHere_14 : decode cX12_moveHere 14 = .ok (.ldc 159, 2) := by decide +kernel
theorem dX12_moveHere_16 : decode cX12_moveHere 16 = .ok (.invokevirtual 136, 3) := by decide +kernel
theorem dX12_moveHere_19 : decode cX12_moveHere 19 = .ok (.ifCond .eq 7, 3) := by decide +kernel
theorem dX12_moveHere_22 : decode cX12_moveHere 22 = .ok (.iconst 1, 1) := by decide +kernel
theorem dX12_moveHere_23 : decode cX12_moveHere 23 = .ok (.goto 17, 3) := by decide +kernel
theorem dX12_moveHere_26 : decode cX12_moveHere 26 = .ok (.aload_n 0, 1) := by decide +kernel
theorem dX12_moveHere_27 : decode cX12_moveHere 27 = .ok (.ldc 161, 2) := by decide +kernel
theorem dX12_moveHere_29 : decode cX12_moveHere 29 = .ok (.invokevirtual 136, 3) := by decide +kernel
theorem dX12_moveHere_32 : decode cX12_moveHere 32 = .ok (.ifCond .eq 7, 3) := by decide +kernel
theorem dX12_moveHere_35 : decode cX12_moveHere 35 = .ok (.iconst 2, 1) := by decide +kernel
theorem dX12_moveHere_36 : decode cX12_moveHere 36 = .ok (.goto 4, 3) := by decide +kernel
theorem dX12_moveHere_39 : decode cX12_moveHere 39 = .ok (.iconst (-1), 1) := by decide +kernel
theorem dX12_moveHere_40 : decode cX12_moveHere 40 = .ok (.ireturn, 1) := by decide +kernel
set_option maxRecDepth 20000 in
theorem ggX12_subjectHere_X12_is : GoodIn wsX12_subjectHere wsX12_is := goodIn_r _ [5, 6, 7, 8, 9, 10, 11, 12, 4, 13, 14, 15, 16, 17, 18, 19, 20, 21, 22, 23, 24, 25, 26, 27, 28, 29, 30, 31, 32, 33, 34, 35, 36, 37, 38, 39, 40, 41, 42, 43, 44, 45, 46, 47, 48, 49, 50, 51, 52, 53, 54, 55, 56, 57, 58, 59, 60, 61, 62, 63, 64, 65, 66, 67, 68, 69, 70, 71, 72, 73, 74, 75, 76, 77, 78, 79, 80, 81, 82, 83, 84, 85, 86, 87, 88, 89, 90, 91, 92, 93, 94, 95, 96, 97] (by decide +kernel) (by decide +kernel)
set_option maxRecDepth 20000 in
theorem gX12_subjectHere_X12_is : GoodIn wsX12_subjectHere (wsV RX12 136 RX12 yX12_is wsX12_is) := goodIn_app (goodIn_of _ (by decide +kernel)) ggX12_subjectHere_X12_is
theorem dX12_subjectHere_0 : decode cX12_subjectHere 0 = .ok (.aload_n 0, 1) := by decide +kernel
theorem dX12_subjectHere_1 : decode cX12_subjectHere 1 = .ok (.ldc 163, 2) := by decide +kernel
theorem dX12_subjectHere_3 : decode cX12_subjectHere 3 = .ok (.invokevirtual 136, 3) := by decide +kernel
theorem dX12_subjectHere_6 : decode cX12_subjectHere 6 = .ok (.ifCond .eq 7, 3) := by decide +kernel
theorem dX12_subjectHere_9 : decode cX12_subjectHere 9 = .ok (.iconst 0, 1) := by decide +kernel
theorem dX12_subjectHere_10 : decode cX12_subjectHere 10 = .ok (.goto 43, 3) := by decide +kernel
theorem dX12_subjectHere_13 : decode cX12_subjectHere 13 = .ok (.aload_n 0, 1) := by decide +kernel
theorem dX12_subjectHere_14 : decode cX12_subjectHere 14 = .ok (.ldc 165, 2) := by decide +kernel
theorem dX12_subjectHere_16 : decode cX12_subjectHere 16 = .ok (.invokevirtual 136, 3) := by decide +kernel
theorem dX12_subjectHere_19 : decode cX12_subjectHere 19 = .ok (.ifCond .eq 7, 3) := by decide +kernel
theorem dX12_subjectHere_22 : decode cX12_subjectHere 22 = .ok (.iconst 1, 1) := by decide +kernel
theorem dX12_subjectHere_23 : decode cX12_subjectHere 23 = .ok (.goto 30, 3) := by decide +kernel
theorem dX12_subjectHere_26 : decode cX12_subjectHere 26 = .ok (.aload_n 0, 1) := by decide +kernel
theorem dX12_subjectHere_27 : decode cX12_subjectHere 27 = .ok (.ldc 167, 2) := by decide +kernel
theorem dX12_subjectHere_29 : decode cX12_subjectHere 29 = .ok (.invokevirtual 136, 3) := by decide +kernel
theorem dX12_subjectHere_32 : decode cX12_subjectHere 32 = .ok (.ifCond .eq 7, 3) := by decide +kernel
theorem dX12_subjectHere_35 : decode cX12_subjectHere 35 = .ok (.iconst 2, 1) := by decide +kernel
theorem dX12_subjectHere_36 : decode cX12_subjectHere 36 = .ok (.goto 17, 3) := by decide +kernel
theorem dX12_subjectHere_39 : decode cX12_subjectHere 39 = .ok (.aload_n 0, 1) := by decide +kernel
theorem dX12_subjectHere_40 : decode cX12_subjectHere 40 = .ok (.ldc 169, 2) := by decide +kernel
theorem dX12_subjectHere_42 : decode cX12_subjectHere 42 = .ok (.invokevirtual 136, 3) := by decide +kernel
theorem dX12_subjectHere_45 : decode cX12_subjectHere 45 = .ok (.ifCond .eq 7, 3) := by decide +kernel
theorem dX12_subjectHere_48 : decode cX12_subjectHere 48 = .ok (.iconst 3, 1) := by decide +kernel
theorem dX12_subjectHere_49 : decode cX12_subjectHere 49 = .ok (.goto 4, 3) := by decide +kernel
theorem dX12_subjectHere_52 : decode cX12_subjectHere 52 = .ok (.iconst (-1), 1) := by decide +kernel
theorem dX12_subjectHere_53 : decode cX12_subjectHere 53 = .ok (.ireturn, 1) := by decide +kernel
set_option maxRecDepth 20000 in
theorem ggX12_kindHere_X12_is : GoodIn wsX12_kindHere wsX12_is := goodIn_r _ [5, 6, 7, 8, 9, 10, 11, 12, 4, 13, 14, 15, 16, 17, 18, 19, 20, 21, 22, 23, 24, 25, 26, 27, 28, 29, 30, 31, 32, 33, 34, 35, 36, 37, 38, 39, 40, 41, 42, 43, 44, 45, 46, 47, 48, 49, 50, 51, 52, 53, 54, 55, 56, 57, 58, 59, 60, 61, 62, 63, 64, 65, 66, 67, 68, 69, 70, 71, 72, 73, 74, 75, 76, 77, 78, 79, 80, 81, 82, 83, 84, 85, 86, 87, 88, 89, 90, 91, 92, 93, 94, 95, 96, 97] (by decide +kernel) (by decide +kernel)
set_option maxRecDepth 20000 in
theorem gX12_kindHere_X12_is : GoodIn wsX12_kindHere (wsV RX12 136 RX12 yX12_is wsX12_is) := goodIn_app (goodIn_of _ (by decide +kernel)) ggX12_kindHere_X12_is
theorem dX12_kindHere_0 : decode cX12_kindHere 0 = .ok (.aload_n 0, 1) := by decide +kernel
theorem dX12_kindHere_1 : decode cX12_kindHere 1 = .ok (.ldc 171, 2) := by decide +kernel
theorem dX12_kindHere_3 : decode cX12_kindHere 3 = .ok (.invokevirtual 136, 3) := by decide +kernel
theorem dX12_kindHere_6 : decode cX12_kindHere 6 = .ok (.ifCond .eq 7, 3) := by decide +kernel
theorem dX12_kindHere_9 : decode cX12_kindHere 9 = .ok (.iconst 0, 1) := by decide +kernel
theorem dX12_kindHere_10 : decode cX12_kindHere 10 = .ok (.goto 43, 3) := by decide +kernel
theorem dX12_kindHere_13 : decode cX12_kindHere 13 = .ok (.aload_n 0, 1) := by decide +kernel
theorem dX12_kindHere_14 : decode cX12_kindHere 14 = .ok (.ldc 173, 2) := by decide +kernel
theorem dX12_kindHere_16 : decode cX12_kindHere 16 = .ok (.invokevirtual 136, 3) := by decide +kernel
theorem dX12_kindHere_19 : decode cX12_kindHere 19 = .ok (.ifCond .eq 7, 3) := by decide +kernel
theorem dX12_kindHere_22 : decode cX12_kindHere 22 = .ok (.iconst 1, 1) := by decide +kernel
theorem dX12_kindHere_23 : decode cX12_kindHere 23 = .ok (.goto 30, 3) := by decide +kernel
theorem dX12_kindHere_26 : decode cX12_kindHere 26 = .ok (.aload_n 0, 1) := by decide +kernel
theorem dX12_kindHere_27 : decode cX12_kindHere 27 = .ok (.ldc 175, 2) := by decide +kernel
theorem dX12_kindHere_29 : decode cX12_kindHere 29 = .ok (.invokevirtual 136, 3) := by decide +kernel
theorem dX12_kindHere_32 : decode cX12_kindHere 32 = .ok (.ifCond .eq 7, 3) := by decide +kernel
theorem dX12_kindHere_35 : decode cX12_kindHere 35 = .ok (.iconst 2, 1) := by decide +kernel
theorem dX12_kindHere_36 : decode cX12_kindHere 36 = .ok (.goto 17, 3) := by decide +kernel
theorem dX12_kindHere_39 : decode cX12_kindHere 39 = .ok (.aload_n 0, 1) := by decide +kernel
theorem dX12_kindHere_40 : decode cX12_kindHere 40 = .ok (.ldc 177, 2) := by decide +kernel
theorem dX12_kindHere_42 : decode cX12_kindHere 42 = .ok (.invokevirtual 136, 3) := by decide +kernel
theorem dX12_kindHere_45 : decode cX12_kindHere 45 = .ok (.ifCond .eq 7, 3) := by decide +kernel
theorem dX12_kindHere_48 : decode cX12_kindHere 48 = .ok (.iconst 3, 1) := by decide +kernel
theorem dX12_kindHere_49 : decode cX12_kindHere 49 = .ok (.goto 4, 3) := by decide +kernel
theorem dX12_kindHere_52 : decode cX12_kindHere 52 = .ok (.iconst (-1), 1) := by decide +kernel
theorem dX12_kindHere_53 : decode cX12_kindHere 53 = .ok (.ireturn, 1) := by decide +kernel
set_option maxRecDepth 20000 in
theorem ggX12_subjects_X12_subjectHere : GoodIn wsX12_subjects wsX12_subjectHere := goodIn_r _ [5, 6, 7, 8, 4, 9, 10, 11, 12, 13, 14, 15, 16, 17, 18, 19, 20, 21, 22, 23, 24, 25, 26, 27, 28, 29, 30, 31, 32, 33, 34, 35, 36, 37, 38, 39, 40, 41, 42, 43, 44, 45, 46, 47, 48, 49, 50, 51, 52, 53, 54, 55, 56, 57, 58, 59, 60, 61, 62, 63, 64, 65, 66, 67, 99, 100, 101, 102, 103, 104, 105, 106, 107, 108, 109, 110, 111, 112, 113, 114, 115, 116, 117, 118, 119, 120, 121, 122, 123, 124, 125, 126, 127, 128, 129, 130, 131, 132] (by decide +kernel) (by decide +kernel)
set_option maxRecDepth 20000 in
theorem gX12_subjects_X12_subjectHere : GoodIn wsX12_subjects (wsV RX12 179 RX12 yX12_subjectHere wsX12_subjectHere) := goodIn_app (goodIn_of _ (by decide +kernel)) ggX12_subjects_X12_subjectHere
set_option maxRecDepth 20000 in
theorem ggX12_subjects_X12_taken : GoodIn wsX12_subjects wsX12_taken := goodIn_r _ [71, 72, 73, 74, 4, 75, 18, 12, 76, 14, 15, 16, 17, 77, 78, 79, 80, 11, 10, 81, 82, 83, 84, 85, 86, 87, 88, 89, 90, 91, 92, 93, 94, 95, 13, 96, 97, 98, 99, 100, 101, 102, 103, 104, 105, 106, 107, 108, 109, 110, 111, 112, 113, 114, 115, 116, 117, 118, 119, 120, 121, 122, 123, 124, 125, 126, 127, 128, 129, 130, 131, 132] (by decide +kernel) (by decide +kernel)
set_option maxRecDepth 20000 in
theorem gX12_subjects_X12_taken : GoodIn wsX12_subjects (wsV RX12 182 RX12 yX12_taken wsX12_taken) := goodIn_app (goodIn_of _ (by decide +kernel)) ggX12_subjects_X12_taken
set_option maxRecDepth 20000 in
theorem ggX12_subjects_X12_good : GoodIn wsX12_subjects wsX12_good := goodIn_r _ [17, 18, 99, 100, 101, 102, 103, 104, 105, 106, 107, 108, 109, 110, 111, 112, 113, 114, 115, 116, 117, 118, 119, 120, 121, 122, 123, 124, 125, 126, 127, 128, 129, 130, 131, 132] (by decide +kernel) (by decide +kernel)
set_option maxRecDepth 20000 in
theorem gX12_subjects_X12_good : GoodIn wsX12_subjects (wsV RX12 122 RX12 yX12_good wsX12_good) := goodIn_app (goodIn_of _ (by decide +kernel)) ggX12_subjects_X12_good
theorem dX12_subjects_0 : decode cX12_subjects 0 = .ok (.iconst 0, 1) := by decide +kernel
theorem dX12_subjects_1 : decode cX12_subjects 1 = .ok (.istore_n 1, 1) := by decide +kernel
theorem dX12_subjects_2 : decode cX12_subjects 2 = .ok (.aload_n 0, 1) := by decide +kernel
theorem dX12_subjects_3 : decode cX12_subjects 3 = .ok (.aload_n 0, 1) := by decide +kernel
theorem dX12_subjects_4 : decode cX12_subjects 4 = .ok (.invokevirtual 179, 3) := by decide +kernel
theorem dX12_subjects_7 : decode cX12_subjects 7 = .ok (.invokevirtual 182, 3) := by decide +kernel
theorem dX12_subjects_10 : decode cX12_subjects 10 = .ok (.istore_n 2, 1) := by decide +kernel
theorem dX12_subjects_11 : decode cX12_subjects 11 = .ok (.aload_n 0, 1) := by decide +kernel
theorem dX12_subjects_12 : decode cX12_subjects 12 = .ok (.invokevirtual 122, 3) := by decide +kernel
theorem dX12_subjects_15 : decode cX12_subjects 15 = .ok (.ifCond .eq 9, 3) := by decide +kernel
theorem dX12_subjects_18 : decode cX12_subjects 18 = .ok (.iload_n 1, 1) := by decide +kernel
theorem dX12_subjects_19 : decode cX12_subjects 19 = .ok (.iconst 1, 1) := by decide +kernel
theorem dX12_subjects_20 : decode cX12_subjects 20 = .ok (.iload_n 2, 1) := by decide +kernel
theorem dX12_subjects_21 : decode cX12_subjects 21 = .ok (.ishl, 1) := by decide +kernel
theorem dX12_subjects_22 : decode cX12_subjects 22 = .ok (.ior, 1) := by decide +kernel
theorem dX12_subjects_23 : decode cX12_subjects 23 = .ok (.istore_n 1, 1) := by decide +kernel
theorem dX12_subjects_24 : decode cX12_subjects 24 = .ok (.aload_n 0, 1) := by decide +kernel
theorem dX12_subjects_25 : decode cX12_subjects 25 = .ok (.invokevirtual 179, 3) := by decide +kernel
theorem dX12_subjects_28 : decode cX12_subjects 28 = .ok (.iconst (-1), 1) := by decide +kernel
theorem dX12_subjects_29 : decode cX12_subjects 29 = .ok (.if_icmp .ne (-27), 3) := by decide +kernel
theorem dX12_subjects_32 : decode cX12_subjects 32 = .ok (.iload_n 1, 1) := by decide +kernel
theorem dX12_subjects_33 : decode cX12_subjects 33 = .ok (.ireturn, 1) := by decide +kernel
set_option maxRecDepth 20000 in
theorem ggX12_readPot_X12_told : GoodIn wsX12_readPot wsX12_told := goodIn_r _ [6, 7, 8, 9, 5, 10, 11, 12, 13, 14, 15, 16, 17, 18, 19, 20, 21, 22, 23, 24, 25, 26, 27, 28, 29, 30, 31, 32, 33, 34, 35, 36, 37, 38, 39, 40, 41, 42, 43, 44, 45, 46, 47, 48, 49, 50, 51, 52, 53, 54, 55, 56, 57, 58, 59, 60, 61, 62, 63, 64, 65, 66, 67, 68, 69, 70, 71, 72, 73, 74, 75, 76, 77, 78, 79, 80, 81, 82, 83, 84, 85, 86, 87, 88, 89, 90, 91, 92, 93, 94, 95, 96, 97, 98, 99, 100, 101, 102, 103, 104, 105, 106, 107, 108, 109, 110, 111, 112, 113, 114, 115, 116, 117, 118, 119, 120, 121, 122, 123, 124, 125, 126, 127, 128, 129, 130, 131, 132, 133, 134, 135, 136, 137, 138, 139, 140, 141] (by decide +kernel) (by decide +kernel)
set_option maxRecDepth 20000 in
theorem gX12_readPot_X12_told : GoodIn wsX12_readPot (wsV RX12 187 RX12 yX12_told wsX12_told) := goodIn_app (goodIn_of _ (by decide +kernel)) ggX12_readPot_X12_told
set_option maxRecDepth 20000 in
theorem ggX12_readPot_X12_good : GoodIn wsX12_readPot wsX12_good := goodIn_r _ [26, 27, 108, 109, 110, 111, 112, 113, 114, 115, 116, 117, 118, 119, 120, 121, 122, 123, 124, 125, 126, 127, 128, 129, 130, 131, 132, 133, 134, 135, 136, 137, 138, 139, 140, 141] (by decide +kernel) (by decide +kernel)
set_option maxRecDepth 20000 in
theorem gX12_readPot_X12_good : GoodIn wsX12_readPot (wsV RX12 122 RX12 yX12_good wsX12_good) := goodIn_app (goodIn_of _ (by decide +kernel)) ggX12_readPot_X12_good
theorem dX12_readPot_0 : decode cX12_readPot 0 = .ok (.aload_n 0, 1) := by decide +kernel
theorem dX12_readPot_1 : decode cX12_readPot 1 = .ok (.ldc 185, 2) := by decide +kernel
theorem dX12_readPot_3 : decode cX12_readPot 3 = .ok (.iconst 0, 1) := by decide +kernel
theorem dX12_readPot_4 : decode cX12_readPot 4 = .ok (.bipush 99, 2) := by decide +kernel
theorem dX12_readPot_6 : decode cX12_readPot 6 = .ok (.invokevirtual 187, 3) := by decide +kernel
theorem dX12_readPot_9 : decode cX12_readPot 9 = .ok (.istore_n 1, 1) := by decide +kernel
theorem dX12_readPot_10 : decode cX12_readPot 10 = .ok (.aload_n 0, 1) := by decide +kernel
theorem dX12_readPot_11 : decode cX12_readPot 11 = .ok (.ldc 191, 2) := by decide +kernel
theorem dX12_readPot_13 : decode cX12_readPot 13 = .ok (.iconst 0, 1) := by decide +kernel
theorem dX12_readPot_14 : decode cX12_readPot 14 = .ok (.sipush 999, 3) := by decide +kernel
theorem dX12_readPot_17 : decode cX12_readPot 17 = .ok (.invokevirtual 187, 3) := by decide +kernel
theorem dX12_readPot_20 : decode cX12_readPot 20 = .ok (.istore_n 2, 1) := by decide +kernel
theorem dX12_readPot_21 : decode cX12_readPot 21 = .ok (.aload_n 0, 1) := by decide +kernel
theorem dX12_readPot_22 : decode cX12_readPot 22 = .ok (.invokevirtual 122, 3) := by decide +kernel
theorem dX12_readPot_25 : decode cX12_readPot 25 = .ok (.ifCond .ne 4, 3) := by decide +kernel
theorem dX12_readPot_28 : decode cX12_readPot 28 = .ok (.return_, 1) := by decide +kernel
theorem dX12_readPot_29 : decode cX12_readPot 29 = .ok (.aload_n 0, 1) := by decide +kernel
theorem dX12_readPot_30 : decode cX12_readPot 30 = .ok (.getfield 34, 3) := by decide +kernel
theorem dX12_readPot_33 : decode cX12_readPot 33 = .ok (.iconst 1, 1) := by decide +kernel
theorem dX12_readPot_34 : decode cX12_readPot 34 = .ok (.iaload, 1) := by decide +kernel
theorem dX12_readPot_35 : decode cX12_readPot 35 = .ok (.istore_n 3, 1) := by decide +kernel
theorem dX12_readPot_36 : decode cX12_readPot 36 = .ok (.aload_n 0, 1) := by decide +kernel
theorem dX12_readPot_37 : decode cX12_readPot 37 = .ok (.getfield 34, 3) := by decide +kernel
theorem dX12_readPot_40 : decode cX12_readPot 40 = .ok (.bipush 10, 2) := by decide +kernel
theorem dX12_readPot_42 : decode cX12_readPot 42 = .ok (.iconst 2, 1) := by decide +kernel
theorem dX12_readPot_43 : decode cX12_readPot 43 = .ok (.iload_n 3, 1) := by decide +kernel
theorem dX12_readPot_44 : decode cX12_readPot 44 = .ok (.imul, 1) := by decide +kernel
theorem dX12_readPot_45 : decode cX12_readPot 45 = .ok (.iadd, 1) := by decide +kernel
theorem dX12_readPot_46 : decode cX12_readPot 46 = .ok (.iload_n 3, 1) := by decide +kernel
theorem dX12_readPot_47 : decode cX12_readPot 47 = .ok (.ifCond .ne 7, 3) := by decide +kernel
theorem dX12_readPot_50 : decode cX12_readPot 50 = .ok (.iconst 0, 1) := by decide +kernel
theorem dX12_readPot_51 : decode cX12_readPot 51 = .ok (.goto 16, 3) := by decide +kernel
theorem dX12_readPot_54 : decode cX12_readPot 54 = .ok (.aload_n 0, 1) := by decide +kernel
theorem dX12_readPot_55 : decode cX12_readPot 55 = .ok (.getfield 34, 3) := by decide +kernel
theorem dX12_readPot_58 : decode cX12_readPot 58 = .ok (.bipush 10, 2) := by decide +kernel
theorem dX12_readPot_60 : decode cX12_readPot 60 = .ok (.iconst 2, 1) := by decide +kernel
theorem dX12_readPot_61 : decode cX12_readPot 61 = .ok (.iload_n 3, 1) := by decide +kernel
theorem dX12_readPot_62 : decode cX12_readPot 62 = .ok (.iconst 1, 1) := by decide +kernel
theorem dX12_readPot_63 : decode cX12_readPot 63 = .ok (.isub, 1) := by decide +kernel
theorem dX12_readPot_64 : decode cX12_readPot 64 = .ok (.imul, 1) := by decide +kernel
theorem dX12_readPot_65 : decode cX12_readPot 65 = .ok (.iadd, 1) := by decide +kernel
theorem dX12_readPot_66 : decode cX12_readPot 66 = .ok (.iaload, 1) := by decide +kernel
theorem dX12_readPot_67 : decode cX12_readPot 67 = .ok (.iload_n 1, 1) := by decide +kernel
theorem dX12_readPot_68 : decode cX12_readPot 68 = .ok (.isub, 1) := by decide +kernel
theorem dX12_readPot_69 : decode cX12_readPot 69 = .ok (.iastore, 1) := by decide +kernel
theorem dX12_readPot_70 : decode cX12_readPot 70 = .ok (.aload_n 0, 1) := by decide +kernel
theorem dX12_readPot_71 : decode cX12_readPot 71 = .ok (.getfield 34, 3) := by decide +kernel
theorem dX12_readPot_74 : decode cX12_readPot 74 = .ok (.bipush 10, 2) := by decide +kernel
theorem dX12_readPot_76 : decode cX12_readPot 76 = .ok (.iconst 2, 1) := by decide +kernel
theorem dX12_readPot_77 : decode cX12_readPot 77 = .ok (.iload_n 3, 1) := by decide +kernel
theorem dX12_readPot_78 : decode cX12_readPot 78 = .ok (.imul, 1) := by decide +kernel
theorem dX12_readPot_79 : decode cX12_readPot 79 = .ok (.iadd, 1) := by decide +kernel
theorem dX12_readPot_80 : decode cX12_readPot 80 = .ok (.iconst 1, 1) := by decide +kernel
theorem dX12_readPot_81 : decode cX12_readPot 81 = .ok (.iadd, 1) := by decide +kernel
theorem dX12_readPot_82 : decode cX12_readPot 82 = .ok (.iload_n 2, 1) := by decide +kernel
theorem dX12_readPot_83 : decode cX12_readPot 83 = .ok (.iastore, 1) := by decide +kernel
theorem dX12_readPot_84 : decode cX12_readPot 84 = .ok (.aload_n 0, 1) := by decide +kernel
theorem dX12_readPot_85 : decode cX12_readPot 85 = .ok (.getfield 34, 3) := by decide +kernel
theorem dX12_readPot_88 : decode cX12_readPot 88 = .ok (.iconst 1, 1) := by decide +kernel
theorem dX12_readPot_89 : decode cX12_readPot 89 = .ok (.dup2, 1) := by decide +kernel
theorem dX12_readPot_90 : decode cX12_readPot 90 = .ok (.iaload, 1) := by decide +kernel
theorem dX12_readPot_91 : decode cX12_readPot 91 = .ok (.iconst 1, 1) := by decide +kernel
theorem dX12_readPot_92 : decode cX12_readPot 92 = .ok (.iadd, 1) := by decide +kernel
theorem dX12_readPot_93 : decode cX12_readPot 93 = .ok (.iastore, 1) := by decide +kernel
theorem dX12_readPot_94 : decode cX12_readPot 94 = .ok (.return_, 1) := by decide +kernel
set_option maxRecDepth 20000 in
theorem ggX12_readMoves_X12_moveHere : GoodIn wsX12_readMoves wsX12_moveHere := goodIn_r _ [6, 7, 8, 9, 5, 10, 11, 12, 13, 14, 15, 16, 17, 18, 19, 20, 21, 22, 23, 24, 25, 26, 27, 28, 29, 30, 31, 32, 33, 34, 35, 36, 37, 38, 39, 40, 41, 42, 43, 44, 45, 46, 47, 48, 49, 50, 51, 52, 53, 54, 55, 56, 57, 58, 59, 60, 61, 62, 63, 64, 65, 66, 67, 68, 104, 105, 106, 107, 108, 109, 110, 111, 112, 113, 114, 115, 116, 117, 118, 119, 120, 121, 122, 123, 124, 125, 126, 127, 128, 129, 130, 131, 132, 133, 134, 135, 136, 137] (by decide +kernel) (by decide +kernel)
set_option maxRecDepth 20000 in
theorem gX12_readMoves_X12_moveHere : GoodIn wsX12_readMoves (wsV RX12 193 RX12 yX12_moveHere wsX12_moveHere) := goodIn_app (goodIn_of _ (by decide +kernel)) ggX12_readMoves_X12_moveHere
set_option maxRecDepth 20000 in
theorem ggX12_readMoves_X12_errs : GoodIn wsX12_readMoves wsX12_errs := goodIn_r _ [72, 19, 13, 73, 15, 16, 17, 5, 18, 104, 105, 106, 107, 108, 109, 110, 111, 112, 113, 114, 115, 116, 117, 118, 119, 120, 121, 122, 123, 124, 125, 126, 127, 128, 129, 130, 131, 132, 133, 134, 135, 136, 137] (by decide +kernel) (by decide +kernel)
set_option maxRecDepth 20000 in
theorem gX12_readMoves_X12_errs : GoodIn wsX12_readMoves (wsV RX12 146 RX12 yX12_errs wsX12_errs) := goodIn_app (goodIn_of _ (by decide +kernel)) ggX12_readMoves_X12_errs
set_option maxRecDepth 20000 in
theorem ggX12_readMoves_X12_taken : GoodIn wsX12_readMoves wsX12_taken := goodIn_r _ [77, 69, 70, 71, 5, 72, 19, 13, 73, 15, 16, 17, 18, 78, 79, 80, 81, 12, 11, 82, 83, 84, 85, 86, 87, 88, 89, 90, 91, 92, 93, 94, 95, 96, 14, 97, 98, 99, 104, 105, 106, 107, 108, 109, 110, 111, 112, 113, 114, 115, 116, 117, 118, 119, 120, 121, 122, 123, 124, 125, 126, 127, 128, 129, 130, 131, 132, 133, 134, 135, 136, 137] (by decide +kernel) (by decide +kernel)
set_option maxRecDepth 20000 in
theorem gX12_readMoves_X12_taken : GoodIn wsX12_readMoves (wsV RX12 182 RX12 yX12_taken wsX12_taken) := goodIn_app (goodIn_of _ (by decide +kernel)) ggX12_readMoves_X12_taken
set_option maxRecDepth 20000 in
theorem ggX12_readMoves_X12_number : GoodIn wsX12_readMoves wsX12_number := goodIn_r _ [103, 11, 86, 15, 16, 17, 5, 18, 19, 69, 70, 71, 72, 13, 73, 97, 98, 99, 78, 79, 80, 81, 12, 82, 83, 84, 85, 87, 88, 89, 90, 91, 92, 93, 94, 95, 96, 14, 104, 105, 106, 107, 108, 109, 110, 111, 112, 113, 114, 115, 116, 117, 118, 119, 120, 121, 122, 123, 124, 125, 126, 127, 128, 129, 130, 131, 132, 133, 134, 135, 136, 137] (by decide +kernel) (by decide +kernel)
set_option maxRecDepth 20000 in
theorem gX12_readMoves_X12_number : GoodIn wsX12_readMoves (wsV RX12 154 RX12 yX12_number wsX12_number) := goodIn_app (goodIn_of _ (by decide +kernel)) ggX12_readMoves_X12_number
set_option maxRecDepth 20000 in
theorem ggX12_readMoves_X12_good : GoodIn wsX12_readMoves wsX12_good := goodIn_r _ [18, 19, 104, 105, 106, 107, 108, 109, 110, 111, 112, 113, 114, 115, 116, 117, 118, 119, 120, 121, 122, 123, 124, 125, 126, 127, 128, 129, 130, 131, 132, 133, 134, 135, 136, 137] (by decide +kernel) (by decide +kernel)
set_option maxRecDepth 20000 in
theorem gX12_readMoves_X12_good : GoodIn wsX12_readMoves (wsV RX12 122 RX12 yX12_good wsX12_good) := goodIn_app (goodIn_of _ (by decide +kernel)) ggX12_readMoves_X12_good
theorem dX12_readMoves_0 : decode cX12_readMoves 0 = .ok (.iconst 0, 1) := by decide +kernel
theorem dX12_readMoves_1 : decode cX12_readMoves 1 = .ok (.istore_n 2, 1) := by decide +kernel
theorem dX12_readMoves_2 : decode cX12_readMoves 2 = .ok (.aload_n 0, 1) := by decide +kernel
theorem dX12_readMoves_3 : decode cX12_readMoves 3 = .ok (.invokevirtual 193, 3) := by decide +kernel
theorem dX12_readMoves_6 : decode cX12_readMoves 6 = .ok (.istore_n 3, 1) := by decide +kernel
theorem dX12_readMoves_7 : decode cX12_readMoves 7 = .ok (.iload_n 2, 1) := by decide +kernel
theorem dX12_readMoves_8 : decode cX12_readMoves 8 = .ok (.bipush 8, 2) := by decide +kernel
theorem dX12_readMoves_10 : decode cX12_readMoves 10 = .ok (.if_icmp .ne 8, 3) := by decide +kernel
theorem dX12_readMoves_13 : decode cX12_readMoves 13 = .ok (.aload_n 0, 1) := by decide +kernel
theorem dX12_readMoves_14 : decode cX12_readMoves 14 = .ok (.iconst 3, 1) := by decide +kernel
theorem dX12_readMoves_15 : decode cX12_readMoves 15 = .ok (.invokevirtual 146, 3) := by decide +kernel
theorem dX12_readMoves_18 : decode cX12_readMoves 18 = .ok (.aload_n 0, 1) := by decide +kernel
theorem dX12_readMoves_19 : decode cX12_readMoves 19 = .ok (.iload_n 3, 1) := by decide +kernel
