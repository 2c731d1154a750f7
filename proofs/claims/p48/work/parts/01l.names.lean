theorem dX12_bend_87 : decode cX12_bend 87 = .ok (.goto 9, 3) := by decide +kernel
theorem dX12_bend_90 : decode cX12_bend 90 = .ok (.aload_n 0, 1) := by decide +kernel
theorem dX12_bend_91 : decode cX12_bend 91 = .ok (.getfield 46, 3) := by decide +kernel
theorem dX12_bend_94 : decode cX12_bend 94 = .ok (.iload_n 2, 1) := by decide +kernel
theorem dX12_bend_95 : decode cX12_bend 95 = .ok (.iaload, 1) := by decide +kernel
theorem dX12_bend_96 : decode cX12_bend 96 = .ok (.ireturn, 1) := by decide +kernel
set_option maxRecDepth 20000 in
theorem ggX12_needOf_X12_ofPipe : GoodIn wsX12_needOf wsX12_ofPipe := goodIn_r _ [6, 7, 33, 34, 35, 36, 37, 38, 39, 40, 41, 42, 43, 44, 45, 46, 47, 48, 49, 50, 51, 52, 53, 54, 55, 56, 57, 58, 59, 60, 61, 62, 63, 64, 65, 66] (by decide +kernel) (by decide +kernel)
set_option maxRecDepth 20000 in
theorem gX12_needOf_X12_ofPipe : GoodIn wsX12_needOf (wsV RX12 308 RX12 yX12_ofPipe wsX12_ofPipe) := goodIn_app (goodIn_of _ (by decide +kernel)) ggX12_needOf_X12_ofPipe
set_option maxRecDepth 20000 in
theorem ggX12_needOf_X12_leverOf : GoodIn wsX12_needOf wsX12_leverOf := goodIn_r _ [11, 12, 13, 14, 15, 16, 17, 18, 19, 20, 21, 22, 23, 5, 24, 25, 2, 3, 4, 6, 7, 26, 27, 28, 33, 34, 35, 36, 37, 38, 39, 40, 41, 42, 43, 44, 45, 46, 47, 48, 49, 50, 51, 52, 53, 54, 55, 56, 57, 58, 59, 60, 61, 62, 63, 64, 65, 66] (by decide +kernel) (by decide +kernel)
set_option maxRecDepth 20000 in
theorem gX12_needOf_X12_leverOf : GoodIn wsX12_needOf (wsV RX12 328 RX12 yX12_leverOf wsX12_leverOf) := goodIn_app (goodIn_of _ (by decide +kernel)) ggX12_needOf_X12_leverOf
set_option maxRecDepth 20000 in
theorem ggX12_needOf_X12_weightOf : GoodIn wsX12_needOf wsX12_weightOf := goodIn_r _ [32, 25, 21, 22, 23, 5, 24, 12, 13, 15, 16, 14, 2, 3, 4, 6, 7, 26, 27, 28, 33, 34, 35, 36, 37, 38, 39, 40, 41, 42, 43, 44, 45, 46, 47, 48, 49, 50, 51, 52, 53, 54, 55, 56, 57, 58, 59, 60, 61, 62, 63, 64, 65, 66] (by decide +kernel) (by decide +kernel)
set_option maxRecDepth 20000 in
theorem gX12_needOf_X12_weightOf : GoodIn wsX12_needOf (wsV RX12 325 RX12 yX12_weightOf wsX12_weightOf) := goodIn_app (goodIn_of _ (by decide +kernel)) ggX12_needOf_X12_weightOf
theorem dX12_needOf_0 : decode cX12_needOf 0 = .ok (.iload_n 2, 1) := by decide +kernel
theorem dX12_needOf_1 : decode cX12_needOf 1 = .ok (.i2l, 1) := by decide +kernel
theorem dX12_needOf_2 : decode cX12_needOf 2 = .ok (.aload_n 0, 1) := by decide +kernel
theorem dX12_needOf_3 : decode cX12_needOf 3 = .ok (.iload_n 1, 1) := by decide +kernel
theorem dX12_needOf_4 : decode cX12_needOf 4 = .ok (.iconst 2, 1) := by decide +kernel
theorem dX12_needOf_5 : decode cX12_needOf 5 = .ok (.invokevirtual 308, 3) := by decide +kernel
theorem dX12_needOf_8 : decode cX12_needOf 8 = .ok (.i2l, 1) := by decide +kernel
theorem dX12_needOf_9 : decode cX12_needOf 9 = .ok (.lmul, 1) := by decide +kernel
theorem dX12_needOf_10 : decode cX12_needOf 10 = .ok (.aload_n 0, 1) := by decide +kernel
theorem dX12_needOf_11 : decode cX12_needOf 11 = .ok (.iload_n 1, 1) := by decide +kernel
theorem dX12_needOf_12 : decode cX12_needOf 12 = .ok (.iconst 2, 1) := by decide +kernel
theorem dX12_needOf_13 : decode cX12_needOf 13 = .ok (.invokevirtual 308, 3) := by decide +kernel
theorem dX12_needOf_16 : decode cX12_needOf 16 = .ok (.i2l, 1) := by decide +kernel
theorem dX12_needOf_17 : decode cX12_needOf 17 = .ok (.lmul, 1) := by decide +kernel
theorem dX12_needOf_18 : decode cX12_needOf 18 = .ok (.aload_n 0, 1) := by decide +kernel
theorem dX12_needOf_19 : decode cX12_needOf 19 = .ok (.iload_n 1, 1) := by decide +kernel
theorem dX12_needOf_20 : decode cX12_needOf 20 = .ok (.invokevirtual 328, 3) := by decide +kernel
theorem dX12_needOf_23 : decode cX12_needOf 23 = .ok (.i2l, 1) := by decide +kernel
theorem dX12_needOf_24 : decode cX12_needOf 24 = .ok (.lmul, 1) := by decide +kernel
theorem dX12_needOf_25 : decode cX12_needOf 25 = .ok (.lstore_n 3, 1) := by decide +kernel
theorem dX12_needOf_26 : decode cX12_needOf 26 = .ok (.lload_n 3, 1) := by decide +kernel
theorem dX12_needOf_27 : decode cX12_needOf 27 = .ok (.aload_n 0, 1) := by decide +kernel
theorem dX12_needOf_28 : decode cX12_needOf 28 = .ok (.iload_n 1, 1) := by decide +kernel
theorem dX12_needOf_29 : decode cX12_needOf 29 = .ok (.bipush 6, 2) := by decide +kernel
theorem dX12_needOf_31 : decode cX12_needOf 31 = .ok (.invokevirtual 308, 3) := by decide +kernel
theorem dX12_needOf_34 : decode cX12_needOf 34 = .ok (.iconst 1, 1) := by decide +kernel
theorem dX12_needOf_35 : decode cX12_needOf 35 = .ok (.if_icmp .ne 7, 3) := by decide +kernel
theorem dX12_needOf_38 : decode cX12_needOf 38 = .ok (.lconst 0, 1) := by decide +kernel
theorem dX12_needOf_39 : decode cX12_needOf 39 = .ok (.goto 13, 3) := by decide +kernel
theorem dX12_needOf_42 : decode cX12_needOf 42 = .ok (.ldc2_w 336, 3) := by decide +kernel
theorem dX12_needOf_45 : decode cX12_needOf 45 = .ok (.aload_n 0, 1) := by decide +kernel
theorem dX12_needOf_46 : decode cX12_needOf 46 = .ok (.iload_n 1, 1) := by decide +kernel
theorem dX12_needOf_47 : decode cX12_needOf 47 = .ok (.invokevirtual 325, 3) := by decide +kernel
theorem dX12_needOf_50 : decode cX12_needOf 50 = .ok (.i2l, 1) := by decide +kernel
theorem dX12_needOf_51 : decode cX12_needOf 51 = .ok (.lmul, 1) := by decide +kernel
theorem dX12_needOf_52 : decode cX12_needOf 52 = .ok (.ladd, 1) := by decide +kernel
theorem dX12_needOf_53 : decode cX12_needOf 53 = .ok (.lreturn, 1) := by decide +kernel
set_option maxRecDepth 20000 in
theorem ggX12_loadOf_X12_needOf : GoodIn wsX12_loadOf wsX12_needOf := goodIn_r _ [11, 1, 12, 13, 14, 10, 15, 16, 17, 18, 19, 20, 21, 22, 23, 24, 25, 26, 27, 5, 28, 29, 30, 31, 32, 33, 34, 35, 36, 37, 38, 39, 40, 45, 46, 47, 48, 49, 50, 51, 52, 53, 54, 55, 56, 57, 58, 59, 60, 61, 62, 63, 64, 65, 66, 67, 68, 69, 70, 71, 72, 73, 74, 75, 76, 77, 78] (by decide +kernel) (by decide +kernel)
set_option maxRecDepth 20000 in
theorem gX12_loadOf_X12_needOf : GoodIn wsX12_loadOf (wsV RX12 338 RX12 yX12_needOf wsX12_needOf) := goodIn_app (goodIn_of _ (by decide +kernel)) ggX12_loadOf_X12_needOf
set_option maxRecDepth 20000 in
theorem ggX12_loadOf_X12_holdsOf : GoodIn wsX12_loadOf wsX12_holdsOf := goodIn_r _ [44, 12, 13, 14, 10, 15, 16, 45, 46, 47, 48, 49, 50, 51, 52, 53, 54, 55, 56, 57, 58, 59, 60, 61, 62, 63, 64, 65, 66, 67, 68, 69, 70, 71, 72, 73, 74, 75, 76, 77, 78] (by decide +kernel) (by decide +kernel)
set_option maxRecDepth 20000 in
theorem gX12_loadOf_X12_holdsOf : GoodIn wsX12_loadOf (wsV RX12 331 RX12 yX12_holdsOf wsX12_holdsOf) := goodIn_app (goodIn_of _ (by decide +kernel)) ggX12_loadOf_X12_holdsOf
theorem dX12_loadOf_0 : decode cX12_loadOf 0 = .ok (.aload_n 0, 1) := by decide +kernel
theorem dX12_loadOf_1 : decode cX12_loadOf 1 = .ok (.iload_n 1, 1) := by decide +kernel
theorem dX12_loadOf_2 : decode cX12_loadOf 2 = .ok (.iload_n 2, 1) := by decide +kernel
theorem dX12_loadOf_3 : decode cX12_loadOf 3 = .ok (.invokevirtual 338, 3) := by decide +kernel
theorem dX12_loadOf_6 : decode cX12_loadOf 6 = .ok (.lstore 4, 2) := by decide +kernel
theorem dX12_loadOf_8 : decode cX12_loadOf 8 = .ok (.ldc2_w 336, 3) := by decide +kernel
theorem dX12_loadOf_11 : decode cX12_loadOf 11 = .ok (.aload_n 0, 1) := by decide +kernel
theorem dX12_loadOf_12 : decode cX12_loadOf 12 = .ok (.iload_n 1, 1) := by decide +kernel
theorem dX12_loadOf_13 : decode cX12_loadOf 13 = .ok (.invokevirtual 331, 3) := by decide +kernel
theorem dX12_loadOf_16 : decode cX12_loadOf 16 = .ok (.iload_n 3, 1) := by decide +kernel
theorem dX12_loadOf_17 : decode cX12_loadOf 17 = .ok (.iadd, 1) := by decide +kernel
theorem dX12_loadOf_18 : decode cX12_loadOf 18 = .ok (.i2l, 1) := by decide +kernel
theorem dX12_loadOf_19 : decode cX12_loadOf 19 = .ok (.lmul, 1) := by decide +kernel
theorem dX12_loadOf_20 : decode cX12_loadOf 20 = .ok (.lstore 6, 2) := by decide +kernel
theorem dX12_loadOf_22 : decode cX12_loadOf 22 = .ok (.lload 6, 2) := by decide +kernel
theorem dX12_loadOf_24 : decode cX12_loadOf 24 = .ok (.lconst 0, 1) := by decide +kernel
theorem dX12_loadOf_25 : decode cX12_loadOf 25 = .ok (.lcmp, 1) := by decide +kernel
theorem dX12_loadOf_26 : decode cX12_loadOf 26 = .ok (.ifCond .ne 18, 3) := by decide +kernel
theorem dX12_loadOf_29 : decode cX12_loadOf 29 = .ok (.lload 4, 2) := by decide +kernel
theorem dX12_loadOf_31 : decode cX12_loadOf 31 = .ok (.lconst 0, 1) := by decide +kernel
theorem dX12_loadOf_32 : decode cX12_loadOf 32 = .ok (.lcmp, 1) := by decide +kernel
theorem dX12_loadOf_33 : decode cX12_loadOf 33 = .ok (.ifCond .ne 7, 3) := by decide +kernel
theorem dX12_loadOf_36 : decode cX12_loadOf 36 = .ok (.iconst 0, 1) := by decide +kernel
theorem dX12_loadOf_37 : decode cX12_loadOf 37 = .ok (.goto 6, 3) := by decide +kernel
theorem dX12_loadOf_40 : decode cX12_loadOf 40 = .ok (.sipush 10000, 3) := by decide +kernel
theorem dX12_loadOf_43 : decode cX12_loadOf 43 = .ok (.ireturn, 1) := by decide +kernel
theorem dX12_loadOf_44 : decode cX12_loadOf 44 = .ok (.ldc2_w 342, 3) := by decide +kernel
theorem dX12_loadOf_47 : decode cX12_loadOf 47 = .ok (.ldc2_w 336, 3) := by decide +kernel
theorem dX12_loadOf_50 : decode cX12_loadOf 50 = .ok (.lload 4, 2) := by decide +kernel
theorem dX12_loadOf_52 : decode cX12_loadOf 52 = .ok (.lmul, 1) := by decide +kernel
theorem dX12_loadOf_53 : decode cX12_loadOf 53 = .ok (.lload 6, 2) := by decide +kernel
theorem dX12_loadOf_55 : decode cX12_loadOf 55 = .ok (.ldiv, 1) := by decide +kernel
theorem dX12_loadOf_56 : decode cX12_loadOf 56 = .ok (.invokestatic 344, 3) := by decide +kernel
theorem dX12_loadOf_59 : decode cX12_loadOf 59 = .ok (.l2i, 1) := by decide +kernel
theorem dX12_loadOf_60 : decode cX12_loadOf 60 = .ok (.ireturn, 1) := by decide +kernel
set_option maxRecDepth 20000 in
theorem ggX12_need_X12_isPipe : GoodIn wsX12_need wsX12_isPipe := goodIn_r _ [6, 7, 8, 9, 5, 10, 49, 50, 51, 52, 53, 54, 55, 56, 57, 58, 59, 60, 61, 62, 63, 64, 65, 66, 67, 68, 69, 70, 71, 72, 73, 74, 75, 76, 77, 78, 79, 80, 81, 82] (by decide +kernel) (by decide +kernel)
set_option maxRecDepth 20000 in
theorem gX12_need_X12_isPipe : GoodIn wsX12_need (wsV RX12 320 RX12 yX12_isPipe wsX12_isPipe) := goodIn_app (goodIn_of _ (by decide +kernel)) ggX12_need_X12_isPipe
set_option maxRecDepth 20000 in
theorem ggX12_need_X12_isPress : GoodIn wsX12_need wsX12_isPress := goodIn_r _ [13, 14, 8, 9, 5, 10] (by decide +kernel) (by decide +kernel)
set_option maxRecDepth 20000 in
theorem gX12_need_X12_isPress : GoodIn wsX12_need (va_wsS RX12 347 yX12_isPress wsX12_isPress) := goodIn_app (goodIn_of _ (by decide +kernel)) ggX12_need_X12_isPress
set_option maxRecDepth 20000 in
theorem ggX12_need_X12_needOf : GoodIn wsX12_need wsX12_needOf := goodIn_r _ [18, 19, 20, 21, 22, 5, 23, 7, 24, 25, 26, 27, 28, 29, 30, 31, 32, 33, 34, 35, 36, 37, 38, 39, 40, 41, 42, 43, 44, 45, 46, 47, 48, 49, 50, 51, 52, 53, 54, 55, 56, 57, 58, 59, 60, 61, 62, 63, 64, 65, 66, 67, 68, 69, 70, 71, 72, 73, 74, 75, 76, 77, 78, 79, 80, 81, 82] (by decide +kernel) (by decide +kernel)
set_option maxRecDepth 20000 in
theorem gX12_need_X12_needOf : GoodIn wsX12_need (wsV RX12 338 RX12 yX12_needOf wsX12_needOf) := goodIn_app (goodIn_of _ (by decide +kernel)) ggX12_need_X12_needOf
theorem dX12_need_0 : decode cX12_need 0 = .ok (.aload_n 0, 1) := by decide +kernel
theorem dX12_need_1 : decode cX12_need 1 = .ok (.iload_n 1, 1) := by decide +kernel
theorem dX12_need_2 : decode cX12_need 2 = .ok (.invokevirtual 320, 3) := by decide +kernel
theorem dX12_need_5 : decode cX12_need 5 = .ok (.ifCond .eq 19, 3) := by decide +kernel
theorem dX12_need_8 : decode cX12_need 8 = .ok (.iload_n 2, 1) := by decide +kernel
theorem dX12_need_9 : decode cX12_need 9 = .ok (.invokestatic 347, 3) := by decide +kernel
theorem dX12_need_12 : decode cX12_need 12 = .ok (.ifCond .eq 12, 3) := by decide +kernel
theorem dX12_need_15 : decode cX12_need 15 = .ok (.aload_n 0, 1) := by decide +kernel
theorem dX12_need_16 : decode cX12_need 16 = .ok (.iload_n 1, 1) := by decide +kernel
theorem dX12_need_17 : decode cX12_need 17 = .ok (.iload_n 2, 1) := by decide +kernel
theorem dX12_need_18 : decode cX12_need 18 = .ok (.invokevirtual 338, 3) := by decide +kernel
theorem dX12_need_21 : decode cX12_need 21 = .ok (.goto 6, 3) := by decide +kernel
theorem dX12_need_24 : decode cX12_need 24 = .ok (.ldc2_w 350, 3) := by decide +kernel
theorem dX12_need_27 : decode cX12_need 27 = .ok (.lreturn, 1) := by decide +kernel
set_option maxRecDepth 20000 in
theorem ggX12_load_X12_isPipe : GoodIn wsX12_load wsX12_isPipe := goodIn_r _ [5, 6, 7, 8, 4, 9, 60, 61, 62, 63, 64, 65, 66, 67, 68, 69, 70, 71, 72, 73, 74, 75, 76, 77, 78, 79, 80, 81, 82, 83, 84, 85, 86, 87, 88, 89, 90, 91, 92, 93] (by decide +kernel) (by decide +kernel)
set_option maxRecDepth 20000 in
theorem gX12_load_X12_isPipe : GoodIn wsX12_load (wsV RX12 320 RX12 yX12_isPipe wsX12_isPipe) := goodIn_app (goodIn_of _ (by decide +kernel)) ggX12_load_X12_isPipe
set_option maxRecDepth 20000 in
theorem ggX12_load_X12_isPress : GoodIn wsX12_load wsX12_isPress := goodIn_r _ [12, 13, 7, 8, 4, 9] (by decide +kernel) (by decide +kernel)
set_option maxRecDepth 20000 in
theorem gX12_load_X12_isPress : GoodIn wsX12_load (va_wsS RX12 347 yX12_isPress wsX12_isPress) := goodIn_app (goodIn_of _ (by decide +kernel)) ggX12_load_X12_isPress
set_option maxRecDepth 20000 in
theorem ggX12_load_X12_loadOf : GoodIn wsX12_load wsX12_loadOf := goodIn_r _ [17, 18, 19, 20, 21, 22, 23, 24, 25, 26, 4, 27, 28, 29, 30, 31, 6, 32, 33, 34, 35, 36, 37, 38, 39, 40, 41, 42, 43, 44, 45, 46, 47, 48, 49, 50, 51, 52, 53, 54, 55, 56, 57, 58, 59, 60, 61, 62, 63, 64, 65, 66, 67, 68, 69, 70, 71, 72, 73, 74, 75, 76, 77, 78, 79, 80, 81, 82, 83, 84, 85, 86, 87, 88, 89, 90, 91, 92, 93] (by decide +kernel) (by decide +kernel)
set_option maxRecDepth 20000 in
theorem gX12_load_X12_loadOf : GoodIn wsX12_load (wsV RX12 352 RX12 yX12_loadOf wsX12_loadOf) := goodIn_app (goodIn_of _ (by decide +kernel)) ggX12_load_X12_loadOf
theorem dX12_load_0 : decode cX12_load 0 = .ok (.aload_n 0, 1) := by decide +kernel
theorem dX12_load_1 : decode cX12_load 1 = .ok (.iload_n 1, 1) := by decide +kernel
theorem dX12_load_2 : decode cX12_load 2 = .ok (.invokevirtual 320, 3) := by decide +kernel
theorem dX12_load_5 : decode cX12_load 5 = .ok (.ifCond .eq 20, 3) := by decide +kernel
theorem dX12_load_8 : decode cX12_load 8 = .ok (.iload_n 2, 1) := by decide +kernel
theorem dX12_load_9 : decode cX12_load 9 = .ok (.invokestatic 347, 3) := by decide +kernel
theorem dX12_load_12 : decode cX12_load 12 = .ok (.ifCond .eq 13, 3) := by decide +kernel
theorem dX12_load_15 : decode cX12_load 15 = .ok (.aload_n 0, 1) := by decide +kernel
theorem dX12_load_16 : decode cX12_load 16 = .ok (.iload_n 1, 1) := by decide +kernel
theorem dX12_load_17 : decode cX12_load 17 = .ok (.iload_n 2, 1) := by decide +kernel
theorem dX12_load_18 : decode cX12_load 18 = .ok (.iconst 0, 1) := by decide +kernel
theorem dX12_load_19 : decode cX12_load 19 = .ok (.invokevirtual 352, 3) := by decide +kernel
theorem dX12_load_22 : decode cX12_load 22 = .ok (.goto 5, 3) := by decide +kernel
theorem dX12_load_25 : decode cX12_load 25 = .ok (.bipush (-2), 2) := by decide +kernel
theorem dX12_load_27 : decode cX12_load 27 = .ok (.ireturn, 1) := by decide +kernel
set_option maxRecDepth 20000 in
theorem ggX12_bowsOf_X12_loadOf : GoodIn wsX12_bowsOf wsX12_loadOf := goodIn_r _ [5, 6, 7, 8, 9, 10, 11, 12, 13, 14, 4, 15, 16, 17, 18, 19, 20, 21, 22, 23, 24, 25, 26, 27, 28, 29, 30, 31, 32, 33, 34, 35, 36, 37, 38, 39, 40, 41, 42, 43, 44, 45, 46, 47, 48, 49, 50, 51, 52, 53, 54, 55, 56, 57, 58, 59, 60, 61, 62, 63, 64, 65, 66, 67, 68, 69, 70, 71, 72, 73, 74, 75, 76, 77, 78, 79, 80, 81, 82] (by decide +kernel) (by decide +kernel)
set_option maxRecDepth 20000 in
theorem gX12_bowsOf_X12_loadOf : GoodIn wsX12_bowsOf (wsV RX12 352 RX12 yX12_loadOf wsX12_loadOf) := goodIn_app (goodIn_of _ (by decide +kernel)) ggX12_bowsOf_X12_loadOf
theorem dX12_bowsOf_0 : decode cX12_bowsOf 0 = .ok (.iconst 0, 1) := by decide +kernel
theorem dX12_bowsOf_1 : decode cX12_bowsOf 1 = .ok (.istore_n 2, 1) := by decide +kernel
theorem dX12_bowsOf_2 : decode cX12_bowsOf 2 = .ok (.iload_n 2, 1) := by decide +kernel
theorem dX12_bowsOf_3 : decode cX12_bowsOf 3 = .ok (.sipush 999, 3) := by decide +kernel
theorem dX12_bowsOf_6 : decode cX12_bowsOf 6 = .ok (.if_icmp .gt 23, 3) := by decide +kernel
theorem dX12_bowsOf_9 : decode cX12_bowsOf 9 = .ok (.aload_n 0, 1) := by decide +kernel
theorem dX12_bowsOf_10 : decode cX12_bowsOf 10 = .ok (.iload_n 1, 1) := by decide +kernel
theorem dX12_bowsOf_11 : decode cX12_bowsOf 11 = .ok (.iload_n 2, 1) := by decide +kernel
theorem dX12_bowsOf_12 : decode cX12_bowsOf 12 = .ok (.iconst 0, 1) := by decide +kernel
theorem dX12_bowsOf_13 : decode cX12_bowsOf 13 = .ok (.invokevirtual 352, 3) := by decide +kernel
theorem dX12_bowsOf_16 : decode cX12_bowsOf 16 = .ok (.bipush 100, 2) := by decide +kernel
theorem dX12_bowsOf_18 : decode cX12_bowsOf 18 = .ok (.if_icmp .le 5, 3) := by decide +kernel
theorem dX12_bowsOf_21 : decode cX12_bowsOf 21 = .ok (.iload_n 2, 1) := by decide +kernel
theorem dX12_bowsOf_22 : decode cX12_bowsOf 22 = .ok (.ireturn, 1) := by decide +kernel
theorem dX12_bowsOf_23 : decode cX12_bowsOf 23 = .ok (.iinc 2 1, 3) := by decide +kernel
theorem dX12_bowsOf_26 : decode cX12_bowsOf 26 = .ok (.goto (-24), 3) := by decide +kernel
theorem dX12_bowsOf_29 : decode cX12_bowsOf 29 = .ok (.iconst (-1), 1) := by decide +kernel
theorem dX12_bowsOf_30 : decode cX12_bowsOf 30 = .ok (.ireturn, 1) := by decide +kernel
set_option maxRecDepth 20000 in
theorem ggX12_bows_X12_isPipe : GoodIn wsX12_bows wsX12_isPipe := goodIn_r _ [5, 6, 7, 8, 4, 9, 60, 61, 62, 63, 64, 65, 66, 67, 68, 69, 70, 71, 72, 73, 74, 75, 76, 77, 78, 79, 80, 81, 82, 83, 84, 85, 86, 87, 88, 89, 90, 91, 92, 93] (by decide +kernel) (by decide +kernel)
set_option maxRecDepth 20000 in
theorem gX12_bows_X12_isPipe : GoodIn wsX12_bows (wsV RX12 320 RX12 yX12_isPipe wsX12_isPipe) := goodIn_app (goodIn_of _ (by decide +kernel)) ggX12_bows_X12_isPipe
set_option maxRecDepth 20000 in
theorem ggX12_bows_X12_bowsOf : GoodIn wsX12_bows wsX12_bowsOf := goodIn_r _ [13, 14, 15, 16, 4, 17, 18, 19, 20, 21, 22, 23, 24, 25, 26, 27, 28, 29, 30, 31, 6, 32, 33, 34, 35, 36, 37, 38, 39, 40, 41, 42, 43, 44, 45, 46, 47, 48, 49, 50, 51, 52, 53, 54, 55, 56, 57, 58, 59, 60, 61, 62, 63, 64, 65, 66, 67, 68, 69, 70, 71, 72, 73, 74, 75, 76, 77, 78, 79, 80, 81, 82, 83, 84, 85, 86, 87, 88, 89, 90, 91, 92, 93] (by decide +kernel) (by decide +kernel)
set_option maxRecDepth 20000 in
theorem gX12_bows_X12_bowsOf : GoodIn wsX12_bows (wsV RX12 356 RX12 yX12_bowsOf wsX12_bowsOf) := goodIn_app (goodIn_of _ (by decide +kernel)) ggX12_bows_X12_bowsOf
theorem dX12_bows_0 : decode cX12_bows 0 = .ok (.aload_n 0, 1) := by decide +kernel
theorem dX12_bows_1 : decode cX12_bows 1 = .ok (.iload_n 1, 1) := by decide +kernel
theorem dX12_bows_2 : decode cX12_bows 2 = .ok (.invokevirtual 320, 3) := by decide +kernel
theorem dX12_bows_5 : decode cX12_bows 5 = .ok (.ifCond .eq 11, 3) := by decide +kernel
theorem dX12_bows_8 : decode cX12_bows 8 = .ok (.aload_n 0, 1) := by decide +kernel
theorem dX12_bows_9 : decode cX12_bows 9 = .ok (.iload_n 1, 1) := by decide +kernel
theorem dX12_bows_10 : decode cX12_bows 10 = .ok (.invokevirtual 356, 3) := by decide +kernel
theorem dX12_bows_13 : decode cX12_bows 13 = .ok (.goto 5, 3) := by decide +kernel
theorem dX12_bows_16 : decode cX12_bows 16 = .ok (.bipush (-2), 2) := by decide +kernel
theorem dX12_bows_18 : decode cX12_bows 18 = .ok (.ireturn, 1) := by decide +kernel
set_option maxRecDepth 20000 in
theorem ggX12_press_X12_isHour : GoodIn wsX12_press wsX12_isHour := goodIn_r _ [6, 1, 7, 8, 5, 9, 10, 11, 12, 13, 14, 15, 16, 17, 18, 19, 20, 21, 22, 23, 24, 25, 26, 27, 28, 29, 30, 31, 32, 33, 34, 35, 36, 37, 38, 39, 40, 41, 42, 43] (by decide +kernel) (by decide +kernel)
set_option maxRecDepth 20000 in
theorem gX12_press_X12_isHour : GoodIn wsX12_press (wsV RX12 359 RX12 yX12_isHour wsX12_isHour) := goodIn_app (goodIn_of _ (by decide +kernel)) ggX12_press_X12_isHour
theorem dX12_press_0 : decode cX12_press 0 = .ok (.aload_n 0, 1) := by decide +kernel
theorem dX12_press_1 : decode cX12_press 1 = .ok (.iload_n 1, 1) := by decide +kernel
theorem dX12_press_2 : decode cX12_press 2 = .ok (.invokevirtual 359, 3) := by decide +kernel
theorem dX12_press_5 : decode cX12_press 5 = .ok (.ifCond .eq 16, 3) := by decide +kernel
theorem dX12_press_8 : decode cX12_press 8 = .ok (.aload_n 0, 1) := by decide +kernel
theorem dX12_press_9 : decode cX12_press 9 = .ok (.getfield 13, 3) := by decide +kernel
theorem dX12_press_12 : decode cX12_press 12 = .ok (.sipush 482, 3) := by decide +kernel
theorem dX12_press_15 : decode cX12_press 15 = .ok (.iload_n 1, 1) := by decide +kernel
theorem dX12_press_16 : decode cX12_press 16 = .ok (.iadd, 1) := by decide +kernel
theorem dX12_press_17 : decode cX12_press 17 = .ok (.iaload, 1) := by decide +kernel
theorem dX12_press_18 : decode cX12_press 18 = .ok (.goto 5, 3) := by decide +kernel
theorem dX12_press_21 : decode cX12_press 21 = .ok (.bipush (-2), 2) := by decide +kernel
theorem dX12_press_23 : decode cX12_press 23 = .ok (.ireturn, 1) := by decide +kernel
theorem dX12_lays_0 : decode cX12_lays 0 = .ok (.aload_n 0, 1) := by decide +kernel
theorem dX12_lays_1 : decode cX12_lays 1 = .ok (.aload_n 0, 1) := by decide +kernel
theorem dX12_lays_2 : decode cX12_lays 2 = .ok (.getfield 13, 3) := by decide +kernel
theorem dX12_lays_5 : decode cX12_lays 5 = .ok (.bipush 6, 2) := by decide +kernel
theorem dX12_lays_7 : decode cX12_lays 7 = .ok (.iaload, 1) := by decide +kernel
theorem dX12_lays_8 : decode cX12_lays 8 = .ok (.putfield 362, 3) := by decide +kernel
theorem dX12_lays_11 : decode cX12_lays 11 = .ok (.iconst 0, 1) := by decide +kernel
theorem dX12_lays_12 : decode cX12_lays 12 = .ok (.istore_n 2, 1) := by decide +kernel
theorem dX12_lays_13 : decode cX12_lays 13 = .ok (.iload_n 2, 1) := by decide +kernel
theorem dX12_lays_14 : decode cX12_lays 14 = .ok (.aload_n 0, 1) := by decide +kernel
theorem dX12_lays_15 : decode cX12_lays 15 = .ok (.getfield 362, 3) := by decide +kernel
theorem dX12_lays_18 : decode cX12_lays 18 = .ok (.if_icmp .ge 37, 3) := by decide +kernel
theorem dX12_lays_21 : decode cX12_lays 21 = .ok (.aload_n 0, 1) := by decide +kernel
theorem dX12_lays_22 : decode cX12_lays 22 = .ok (.getfield 49, 3) := by decide +kernel
theorem dX12_lays_25 : decode cX12_lays 25 = .ok (.iload_n 2, 1) := by decide +kernel
theorem dX12_lays_26 : decode cX12_lays 26 = .ok (.iconst 0, 1) := by decide +kernel
theorem dX12_lays_27 : decode cX12_lays 27 = .ok (.sipush 999, 3) := by decide +kernel
theorem dX12_lays_30 : decode cX12_lays 30 = .ok (.aload_n 0, 1) := by decide +kernel
theorem dX12_lays_31 : decode cX12_lays 31 = .ok (.getfield 13, 3) := by decide +kernel
theorem dX12_lays_34 : decode cX12_lays 34 = .ok (.sipush 482, 3) := by decide +kernel
theorem dX12_lays_37 : decode cX12_lays 37 = .ok (.iload_n 2, 1) := by decide +kernel
theorem dX12_lays_38 : decode cX12_lays 38 = .ok (.iadd, 1) := by decide +kernel
theorem dX12_lays_39 : decode cX12_lays 39 = .ok (.iaload, 1) := by decide +kernel
theorem dX12_lays_40 : decode cX12_lays 40 = .ok (.iload_n 1, 1) := by decide +kernel
theorem dX12_lays_41 : decode cX12_lays 41 = .ok (.iadd, 1) := by decide +kernel
theorem dX12_lays_42 : decode cX12_lays 42 = .ok (.invokestatic 113, 3) := by decide +kernel
theorem dX12_lays_45 : decode cX12_lays 45 = .ok (.invokestatic 365, 3) := by decide +kernel
theorem dX12_lays_48 : decode cX12_lays 48 = .ok (.iastore, 1) := by decide +kernel
theorem dX12_lays_49 : decode cX12_lays 49 = .ok (.iinc 2 1, 3) := by decide +kernel
theorem dX12_lays_52 : decode cX12_lays 52 = .ok (.goto (-39), 3) := by decide +kernel
theorem dX12_lays_55 : decode cX12_lays 55 = .ok (.return_, 1) := by decide +kernel
set_option maxRecDepth 20000 in
theorem ggX12_laysLoads_X12_loadOf : GoodIn wsX12_laysLoads wsX12_loadOf := goodIn_r _ [8, 9, 10, 11, 12, 13, 14, 15, 16, 17, 7, 18, 19, 20, 21, 22, 23, 24, 25, 26, 27, 28, 29, 30, 31, 32, 33, 34, 35, 36, 37, 38, 39, 40, 41, 42, 43, 44, 45, 46, 47, 48, 49, 50, 51, 52, 53, 54, 55, 56, 57, 58, 59, 60, 61, 62, 63, 64, 65, 66, 67, 68, 69, 70, 71, 72, 73, 74, 75, 76, 77, 78, 79, 80, 81, 82, 83, 84, 85] (by decide +kernel) (by decide +kernel)
set_option maxRecDepth 20000 in
theorem gX12_laysLoads_X12_loadOf : GoodIn wsX12_laysLoads (wsV RX12 352 RX12 yX12_loadOf wsX12_loadOf) := goodIn_app (goodIn_of _ (by decide +kernel)) ggX12_laysLoads_X12_loadOf
theorem dX12_laysLoads_0 : decode cX12_laysLoads 0 = .ok (.iconst 0, 1) := by decide +kernel
theorem dX12_laysLoads_1 : decode cX12_laysLoads 1 = .ok (.istore_n 3, 1) := by decide +kernel
theorem dX12_laysLoads_2 : decode cX12_laysLoads 2 = .ok (.iload_n 3, 1) := by decide +kernel
theorem dX12_laysLoads_3 : decode cX12_laysLoads 3 = .ok (.sipush 999, 3) := by decide +kernel
theorem dX12_laysLoads_6 : decode cX12_laysLoads 6 = .ok (.if_icmp .gt 16, 3) := by decide +kernel
theorem dX12_laysLoads_9 : decode cX12_laysLoads 9 = .ok (.aload_n 0, 1) := by decide +kernel
theorem dX12_laysLoads_10 : decode cX12_laysLoads 10 = .ok (.getfield 52, 3) := by decide +kernel
theorem dX12_laysLoads_13 : decode cX12_laysLoads 13 = .ok (.iload_n 3, 1) := by decide +kernel
theorem dX12_laysLoads_14 : decode cX12_laysLoads 14 = .ok (.iconst (-1), 1) := by decide +kernel
theorem dX12_laysLoads_15 : decode cX12_laysLoads 15 = .ok (.iastore, 1) := by decide +kernel
theorem dX12_laysLoads_16 : decode cX12_laysLoads 16 = .ok (.iinc 3 1, 3) := by decide +kernel
theorem dX12_laysLoads_19 : decode cX12_laysLoads 19 = .ok (.goto (-17), 3) := by decide +kernel
theorem dX12_laysLoads_22 : decode cX12_laysLoads 22 = .ok (.iconst 0, 1) := by decide +kernel
theorem dX12_laysLoads_23 : decode cX12_laysLoads 23 = .ok (.istore_n 3, 1) := by decide +kernel
theorem dX12_laysLoads_24 : decode cX12_laysLoads 24 = .ok (.iload_n 3, 1) := by decide +kernel
theorem dX12_laysLoads_25 : decode cX12_laysLoads 25 = .ok (.aload_n 0, 1) := by decide +kernel
theorem dX12_laysLoads_26 : decode cX12_laysLoads 26 = .ok (.getfield 362, 3) := by decide +kernel
theorem dX12_laysLoads_29 : decode cX12_laysLoads 29 = .ok (.if_icmp .ge 47, 3) := by decide +kernel
theorem dX12_laysLoads_32 : decode cX12_laysLoads 32 = .ok (.aload_n 0, 1) := by decide +kernel
theorem dX12_laysLoads_33 : decode cX12_laysLoads 33 = .ok (.getfield 52, 3) := by decide +kernel
theorem dX12_laysLoads_36 : decode cX12_laysLoads 36 = .ok (.aload_n 0, 1) := by decide +kernel
theorem dX12_laysLoads_37 : decode cX12_laysLoads 37 = .ok (.getfield 49, 3) := by decide +kernel
theorem dX12_laysLoads_40 : decode cX12_laysLoads 40 = .ok (.iload_n 3, 1) := by decide +kernel
theorem dX12_laysLoads_41 : decode cX12_laysLoads 41 = .ok (.iaload, 1) := by decide +kernel
theorem dX12_laysLoads_42 : decode cX12_laysLoads 42 = .ok (.iaload, 1) := by decide +kernel
theorem dX12_laysLoads_43 : decode cX12_laysLoads 43 = .ok (.iconst (-1), 1) := by decide +kernel
theorem dX12_laysLoads_44 : decode cX12_laysLoads 44 = .ok (.if_icmp .ne 26, 3) := by decide +kernel
theorem dX12_laysLoads_47 : decode cX12_laysLoads 47 = .ok (.aload_n 0, 1) := by decide +kernel
theorem dX12_laysLoads_48 : decode cX12_laysLoads 48 = .ok (.getfield 52, 3) := by decide +kernel
theorem dX12_laysLoads_51 : decode cX12_laysLoads 51 = .ok (.aload_n 0, 1) := by decide +kernel
theorem dX12_laysLoads_52 : decode cX12_laysLoads 52 = .ok (.getfield 49, 3) := by decide +kernel
theorem dX12_laysLoads_55 : decode cX12_laysLoads 55 = .ok (.iload_n 3, 1) := by decide +kernel
theorem dX12_laysLoads_56 : decode cX12_laysLoads 56 = .ok (.iaload, 1) := by decide +kernel
theorem dX12_laysLoads_57 : decode cX12_laysLoads 57 = .ok (.aload_n 0, 1) := by decide +kernel
theorem dX12_laysLoads_58 : decode cX12_laysLoads 58 = .ok (.iload_n 1, 1) := by decide +kernel
theorem dX12_laysLoads_59 : decode cX12_laysLoads 59 = .ok (.aload_n 0, 1) := by decide +kernel
theorem dX12_laysLoads_60 : decode cX12_laysLoads 60 = .ok (.getfield 49, 3) := by decide +kernel
theorem dX12_laysLoads_63 : decode cX12_laysLoads 63 = .ok (.iload_n 3, 1) := by decide +kernel
theorem dX12_laysLoads_64 : decode cX12_laysLoads 64 = .ok (.iaload, 1) := by decide +kernel
theorem dX12_laysLoads_65 : decode cX12_laysLoads 65 = .ok (.iload_n 2, 1) := by decide +kernel
theorem dX12_laysLoads_66 : decode cX12_laysLoads 66 = .ok (.invokevirtual 352, 3) := by decide +kernel
theorem dX12_laysLoads_69 : decode cX12_laysLoads 69 = .ok (.iastore, 1) := by decide +kernel
theorem dX12_laysLoads_70 : decode cX12_laysLoads 70 = .ok (.iinc 3 1, 3) := by decide +kernel
theorem dX12_laysLoads_73 : decode cX12_laysLoads 73 = .ok (.goto (-49), 3) := by decide +kernel
theorem dX12_laysLoads_76 : decode cX12_laysLoads 76 = .ok (.return_, 1) := by decide +kernel
theorem dX12_wearIn_0 : decode cX12_wearIn 0 = .ok (.iload_n 1, 1) := by decide +kernel
theorem dX12_wearIn_1 : decode cX12_wearIn 1 = .ok (.ifCond .ne 7, 3) := by decide +kernel
theorem dX12_wearIn_4 : decode cX12_wearIn 4 = .ok (.iconst 0, 1) := by decide +kernel
theorem dX12_wearIn_5 : decode cX12_wearIn 5 = .ok (.goto 11, 3) := by decide +kernel
theorem dX12_wearIn_8 : decode cX12_wearIn 8 = .ok (.aload_n 0, 1) := by decide +kernel
theorem dX12_wearIn_9 : decode cX12_wearIn 9 = .ok (.getfield 49, 3) := by decide +kernel
theorem dX12_wearIn_12 : decode cX12_wearIn 12 = .ok (.iload_n 1, 1) := by decide +kernel
theorem dX12_wearIn_13 : decode cX12_wearIn 13 = .ok (.iconst 1, 1) := by decide +kernel
theorem dX12_wearIn_14 : decode cX12_wearIn 14 = .ok (.isub, 1) := by decide +kernel
theorem dX12_wearIn_15 : decode cX12_wearIn 15 = .ok (.iaload, 1) := by decide +kernel
theorem dX12_wearIn_16 : decode cX12_wearIn 16 = .ok (.istore_n 2, 1) := by decide +kernel
theorem dX12_wearIn_17 : decode cX12_wearIn 17 = .ok (.aload_n 0, 1) := by decide +kernel
theorem dX12_wearIn_18 : decode cX12_wearIn 18 = .ok (.getfield 52, 3) := by decide +kernel
theorem dX12_wearIn_21 : decode cX12_wearIn 21 = .ok (.aload_n 0, 1) := by decide +kernel
theorem dX12_wearIn_22 : decode cX12_wearIn 22 = .ok (.getfield 49, 3) := by decide +kernel
theorem dX12_wearIn_25 : decode cX12_wearIn 25 = .ok (.iload_n 1, 1) := by decide +kernel
theorem dX12_wearIn_26 : decode cX12_wearIn 26 = .ok (.iaload, 1) := by decide +kernel
theorem dX12_wearIn_27 : decode cX12_wearIn 27 = .ok (.iaload, 1) := by decide +kernel
theorem dX12_wearIn_28 : decode cX12_wearIn 28 = .ok (.istore_n 3, 1) := by decide +kernel
theorem dX12_wearIn_29 : decode cX12_wearIn 29 = .ok (.aload_n 0, 1) := by decide +kernel
theorem dX12_wearIn_30 : decode cX12_wearIn 30 = .ok (.getfield 49, 3) := by decide +kernel
theorem dX12_wearIn_33 : decode cX12_wearIn 33 = .ok (.iload_n 1, 1) := by decide +kernel
theorem dX12_wearIn_34 : decode cX12_wearIn 34 = .ok (.iaload, 1) := by decide +kernel
theorem dX12_wearIn_35 : decode cX12_wearIn 35 = .ok (.iload_n 2, 1) := by decide +kernel
theorem dX12_wearIn_36 : decode cX12_wearIn 36 = .ok (.if_icmp .eq 16, 3) := by decide +kernel
theorem dX12_wearIn_39 : decode cX12_wearIn 39 = .ok (.iload_n 3, 1) := by decide +kernel
theorem dX12_wearIn_40 : decode cX12_wearIn 40 = .ok (.bipush 49, 2) := by decide +kernel
theorem dX12_wearIn_42 : decode cX12_wearIn 42 = .ok (.if_icmp .le 10, 3) := by decide +kernel
theorem dX12_wearIn_45 : decode cX12_wearIn 45 = .ok (.iload_n 3, 1) := by decide +kernel
theorem dX12_wearIn_46 : decode cX12_wearIn 46 = .ok (.bipush 49, 2) := by decide +kernel
theorem dX12_wearIn_48 : decode cX12_wearIn 48 = .ok (.isub, 1) := by decide +kernel
theorem dX12_wearIn_49 : decode cX12_wearIn 49 = .ok (.goto 4, 3) := by decide +kernel
theorem dX12_wearIn_52 : decode cX12_wearIn 52 = .ok (.iconst 0, 1) := by decide +kernel
theorem dX12_wearIn_53 : decode cX12_wearIn 53 = .ok (.ireturn, 1) := by decide +kernel
set_option maxRecDepth 20000 in
theorem ggX12_goesBy_X12_laysLoads : GoodIn wsX12_goesBy wsX12_laysLoads := goodIn_r _ [9, 2, 1, 3, 10, 11, 12, 8, 13, 14, 15, 16, 17, 18, 19, 20, 21, 22, 23, 24, 25, 26, 27, 28, 29, 30, 31, 32, 33, 34, 35, 36, 37, 38, 39, 40, 41, 42, 43, 44, 45, 46, 47, 48, 49, 50, 51, 52, 53, 54, 55, 56, 61, 62, 63, 64, 65, 66, 67, 68, 69, 70, 71, 72, 73, 74, 75, 76, 77, 78, 79, 80, 81, 82, 83, 84, 85, 86, 87, 88, 89, 90, 91, 92, 93, 94] (by decide +kernel) (by decide +kernel)
set_option maxRecDepth 20000 in
theorem gX12_goesBy_X12_laysLoads : GoodIn wsX12_goesBy (wsV RX12 368 RX12 yX12_laysLoads wsX12_laysLoads) := goodIn_app (goodIn_of _ (by decide +kernel)) ggX12_goesBy_X12_laysLoads
set_option maxRecDepth 20000 in
theorem ggX12_goesBy_X12_wearIn : GoodIn wsX12_goesBy wsX12_wearIn := goodIn_r _ [60, 3, 2, 61, 62, 63, 64, 65, 66, 67, 68, 69, 70, 71, 72, 73, 74, 75, 76, 77, 78, 79, 80, 81, 82, 83, 84, 85, 86, 87, 88, 89, 90, 91, 92, 93, 94] (by decide +kernel) (by decide +kernel)
set_option maxRecDepth 20000 in
theorem gX12_goesBy_X12_wearIn : GoodIn wsX12_goesBy (wsV RX12 372 RX12 yX12_wearIn wsX12_wearIn) := goodIn_app (goodIn_of _ (by decide +kernel)) ggX12_goesBy_X12_wearIn
set_option maxRecDepth 20000 in
theorem ggX12_goesBy_X12_ofPipe : GoodIn wsX12_goesBy wsX12_ofPipe := goodIn_r _ [27, 28, 61, 62, 63, 64, 65, 66, 67, 68, 69, 70, 71, 72, 73, 74, 75, 76, 77, 78, 79, 80, 81, 82, 83, 84, 85, 86, 87, 88, 89, 90, 91, 92, 93, 94] (by decide +kernel) (by decide +kernel)
set_option maxRecDepth 20000 in
theorem gX12_goesBy_X12_ofPipe : GoodIn wsX12_goesBy (wsV RX12 308 RX12 yX12_ofPipe wsX12_ofPipe) := goodIn_app (goodIn_of _ (by decide +kernel)) ggX12_goesBy_X12_ofPipe
theorem dX12_goesBy_0 : decode cX12_goesBy 0 = .ok (.aload_n 0, 1) := by decide +kernel
theorem dX12_goesBy_1 : decode cX12_goesBy 1 = .ok (.iload_n 1, 1) := by decide +kernel
theorem dX12_goesBy_2 : decode cX12_goesBy 2 = .ok (.iload_n 2, 1) := by decide +kernel
theorem dX12_goesBy_3 : decode cX12_goesBy 3 = .ok (.invokevirtual 368, 3) := by decide +kernel
theorem dX12_goesBy_6 : decode cX12_goesBy 6 = .ok (.iconst 0, 1) := by decide +kernel
theorem dX12_goesBy_7 : decode cX12_goesBy 7 = .ok (.istore_n 3, 1) := by decide +kernel
theorem dX12_goesBy_8 : decode cX12_goesBy 8 = .ok (.iconst 0, 1) := by decide +kernel
theorem dX12_goesBy_9 : decode cX12_goesBy 9 = .ok (.istore 4, 2) := by decide +kernel
theorem dX12_goesBy_11 : decode cX12_goesBy 11 = .ok (.iload 4, 2) := by decide +kernel
theorem dX12_goesBy_13 : decode cX12_goesBy 13 = .ok (.aload_n 0, 1) := by decide +kernel
theorem dX12_goesBy_14 : decode cX12_goesBy 14 = .ok (.getfield 362, 3) := by decide +kernel
theorem dX12_goesBy_17 : decode cX12_goesBy 17 = .ok (.if_icmp .ge 64, 3) := by decide +kernel
theorem dX12_goesBy_20 : decode cX12_goesBy 20 = .ok (.iload_n 3, 1) := by decide +kernel
theorem dX12_goesBy_21 : decode cX12_goesBy 21 = .ok (.aload_n 0, 1) := by decide +kernel
theorem dX12_goesBy_22 : decode cX12_goesBy 22 = .ok (.iload 4, 2) := by decide +kernel
theorem dX12_goesBy_24 : decode cX12_goesBy 24 = .ok (.invokevirtual 372, 3) := by decide +kernel
theorem dX12_goesBy_27 : decode cX12_goesBy 27 = .ok (.iadd, 1) := by decide +kernel
theorem dX12_goesBy_28 : decode cX12_goesBy 28 = .ok (.istore_n 3, 1) := by decide +kernel
theorem dX12_goesBy_29 : decode cX12_goesBy 29 = .ok (.aload_n 0, 1) := by decide +kernel
theorem dX12_goesBy_30 : decode cX12_goesBy 30 = .ok (.aload_n 0, 1) := by decide +kernel
theorem dX12_goesBy_31 : decode cX12_goesBy 31 = .ok (.getfield 52, 3) := by decide +kernel
theorem dX12_goesBy_34 : decode cX12_goesBy 34 = .ok (.aload_n 0, 1) := by decide +kernel
theorem dX12_goesBy_35 : decode cX12_goesBy 35 = .ok (.getfield 49, 3) := by decide +kernel
theorem dX12_goesBy_38 : decode cX12_goesBy 38 = .ok (.iload 4, 2) := by decide +kernel
theorem dX12_goesBy_40 : decode cX12_goesBy 40 = .ok (.iaload, 1) := by decide +kernel
theorem dX12_goesBy_41 : decode cX12_goesBy 41 = .ok (.iaload, 1) := by decide +kernel
theorem dX12_goesBy_42 : decode cX12_goesBy 42 = .ok (.bipush 100, 2) := by decide +kernel
theorem dX12_goesBy_44 : decode cX12_goesBy 44 = .ok (.if_icmp .le 7, 3) := by decide +kernel
theorem dX12_goesBy_47 : decode cX12_goesBy 47 = .ok (.iconst 0, 1) := by decide +kernel
theorem dX12_goesBy_48 : decode cX12_goesBy 48 = .ok (.goto 4, 3) := by decide +kernel
theorem dX12_goesBy_51 : decode cX12_goesBy 51 = .ok (.iconst 1, 1) := by decide +kernel
theorem dX12_goesBy_52 : decode cX12_goesBy 52 = .ok (.putfield 375, 3) := by decide +kernel
theorem dX12_goesBy_55 : decode cX12_goesBy 55 = .ok (.aload_n 0, 1) := by decide +kernel
theorem dX12_goesBy_56 : decode cX12_goesBy 56 = .ok (.getfield 375, 3) := by decide +kernel
theorem dX12_goesBy_59 : decode cX12_goesBy 59 = .ok (.ifCond .eq 13, 3) := by decide +kernel
theorem dX12_goesBy_62 : decode cX12_goesBy 62 = .ok (.iload_n 3, 1) := by decide +kernel
theorem dX12_goesBy_63 : decode cX12_goesBy 63 = .ok (.aload_n 0, 1) := by decide +kernel
theorem dX12_goesBy_64 : decode cX12_goesBy 64 = .ok (.iload_n 1, 1) := by decide +kernel
theorem dX12_goesBy_65 : decode cX12_goesBy 65 = .ok (.iconst 5, 1) := by decide +kernel
theorem dX12_goesBy_66 : decode cX12_goesBy 66 = .ok (.invokevirtual 308, 3) := by decide +kernel
theorem dX12_goesBy_69 : decode cX12_goesBy 69 = .ok (.if_icmp .lt 6, 3) := by decide +kernel
theorem dX12_goesBy_72 : decode cX12_goesBy 72 = .ok (.iload 4, 2) := by decide +kernel
theorem dX12_goesBy_74 : decode cX12_goesBy 74 = .ok (.ireturn, 1) := by decide +kernel
theorem dX12_goesBy_75 : decode cX12_goesBy 75 = .ok (.iinc 4 1, 3) := by decide +kernel
theorem dX12_goesBy_78 : decode cX12_goesBy 78 = .ok (.goto (-67), 3) := by decide +kernel
theorem dX12_goesBy_81 : decode cX12_goesBy 81 = .ok (.iconst (-1), 1) := by decide +kernel
theorem dX12_goesBy_82 : decode cX12_goesBy 82 = .ok (.ireturn, 1) := by decide +kernel
set_option maxRecDepth 20000 in
theorem ggX12_goesOf_X12_lays : GoodIn wsX12_goesOf wsX12_lays := goodIn_r _ [5, 6, 7, 8, 9, 10, 11, 12, 13, 14, 15, 75, 76, 77, 78, 79, 80, 81, 82, 83, 84, 85, 86, 87, 88, 89, 90, 91, 92, 93, 94, 95, 96, 97, 98, 99, 100, 101, 102, 103, 104, 105, 106, 107, 108] (by decide +kernel) (by decide +kernel)
set_option maxRecDepth 20000 in
theorem gX12_goesOf_X12_lays : GoodIn wsX12_goesOf (wsV RX12 378 RX12 yX12_lays wsX12_lays) := goodIn_app (goodIn_of _ (by decide +kernel)) ggX12_goesOf_X12_lays
set_option maxRecDepth 20000 in
theorem ggX12_goesOf_X12_goesBy : GoodIn wsX12_goesOf wsX12_goesBy := goodIn_r _ [19, 7, 20, 8, 21, 22, 23, 24, 4, 25, 26, 27, 28, 29, 30, 31, 32, 33, 11, 34, 35, 36, 37, 38, 39, 40, 41, 42, 6, 43, 44, 45, 46, 47, 48, 49, 50, 51, 52, 53, 54, 55, 56, 57, 58, 59, 60, 61, 62, 63, 64, 65, 66, 67, 68, 69, 70, 71, 72, 73, 74, 75, 76, 77, 78, 79, 80, 81, 82, 83, 84, 85, 86, 87, 88, 89, 90, 91, 92, 93, 94, 95, 96, 97, 98, 99, 100, 101, 102, 103, 104, 105, 106, 107, 108] (by decide +kernel) (by decide +kernel)
set_option maxRecDepth 20000 in
theorem gX12_goesOf_X12_goesBy : GoodIn wsX12_goesOf (wsV RX12 381 RX12 yX12_goesBy wsX12_goesBy) := goodIn_app (goodIn_of _ (by decide +kernel)) ggX12_goesOf_X12_goesBy
theorem dX12_goesOf_0 : decode cX12_goesOf 0 = .ok (.aload_n 0, 1) := by decide +kernel
theorem dX12_goesOf_1 : decode cX12_goesOf 1 = .ok (.iconst 0, 1) := by decide +kernel
theorem dX12_goesOf_2 : decode cX12_goesOf 2 = .ok (.invokevirtual 378, 3) := by decide +kernel
theorem dX12_goesOf_5 : decode cX12_goesOf 5 = .ok (.aload_n 0, 1) := by decide +kernel
theorem dX12_goesOf_6 : decode cX12_goesOf 6 = .ok (.iload_n 1, 1) := by decide +kernel
theorem dX12_goesOf_7 : decode cX12_goesOf 7 = .ok (.iconst 0, 1) := by decide +kernel
theorem dX12_goesOf_8 : decode cX12_goesOf 8 = .ok (.invokevirtual 381, 3) := by decide +kernel
theorem dX12_goesOf_11 : decode cX12_goesOf 11 = .ok (.ireturn, 1) := by decide +kernel
set_option maxRecDepth 20000 in
theorem ggX12_wear_X12_isPipe : GoodIn wsX12_wear wsX12_isPipe := goodIn_r _ [5, 6, 7, 8, 4, 9, 81, 82, 83, 84, 85, 86, 87, 88, 89, 90, 91, 92, 93, 94, 95, 96, 97, 98, 99, 100, 101, 102, 103, 104, 105, 106, 107, 108, 109, 110, 111, 112, 113, 114] (by decide +kernel) (by decide +kernel)
set_option maxRecDepth 20000 in
theorem gX12_wear_X12_isPipe : GoodIn wsX12_wear (wsV RX12 320 RX12 yX12_isPipe wsX12_isPipe) := goodIn_app (goodIn_of _ (by decide +kernel)) ggX12_wear_X12_isPipe
set_option maxRecDepth 20000 in
theorem ggX12_wear_X12_isHour : GoodIn wsX12_wear wsX12_isHour := goodIn_r _ [13, 6, 7, 8, 4, 9, 81, 82, 83, 84, 85, 86, 87, 88, 89, 90, 91, 92, 93, 94, 95, 96, 97, 98, 99, 100, 101, 102, 103, 104, 105, 106, 107, 108, 109, 110, 111, 112, 113, 114] (by decide +kernel) (by decide +kernel)
set_option maxRecDepth 20000 in
theorem gX12_wear_X12_isHour : GoodIn wsX12_wear (wsV RX12 359 RX12 yX12_isHour wsX12_isHour) := goodIn_app (goodIn_of _ (by decide +kernel)) ggX12_wear_X12_isHour
set_option maxRecDepth 20000 in
theorem ggX12_wear_X12_lays : GoodIn wsX12_wear wsX12_lays := goodIn_r _ [17, 6, 18, 19, 20, 21, 22, 23, 24, 25, 26, 81, 82, 83, 84, 85, 86, 87, 88, 89, 90, 91, 92, 93, 94, 95, 96, 97, 98, 99, 100, 101, 102, 103, 104, 105, 106, 107, 108, 109, 110, 111, 112, 113, 114] (by decide +kernel) (by decide +kernel)
set_option maxRecDepth 20000 in
theorem gX12_wear_X12_lays : GoodIn wsX12_wear (wsV RX12 378 RX12 yX12_lays wsX12_lays) := goodIn_app (goodIn_of _ (by decide +kernel)) ggX12_wear_X12_lays
set_option maxRecDepth 20000 in
theorem ggX12_wear_X12_laysLoads : GoodIn wsX12_wear wsX12_laysLoads := goodIn_r _ [30, 31, 18, 19, 32, 33, 34, 4, 35, 36, 37, 38, 39, 22, 40, 41, 42, 43, 44, 45, 46, 47, 48, 6, 49, 50, 51, 52, 53, 54, 55, 56, 57, 58, 59, 60, 61, 62, 63, 64, 65, 66, 67, 68, 69, 70, 71, 72, 73, 74, 75, 76, 81, 82, 83, 84, 85, 86, 87, 88, 89, 90, 91, 92, 93, 94, 95, 96, 97, 98, 99, 100, 101, 102, 103, 104, 105, 106, 107, 108, 109, 110, 111, 112, 113, 114] (by decide +kernel) (by decide +kernel)
set_option maxRecDepth 20000 in
theorem gX12_wear_X12_laysLoads : GoodIn wsX12_wear (wsV RX12 368 RX12 yX12_laysLoads wsX12_laysLoads) := goodIn_app (goodIn_of _ (by decide +kernel)) ggX12_wear_X12_laysLoads
set_option maxRecDepth 20000 in
theorem ggX12_wear_X12_wearIn : GoodIn wsX12_wear wsX12_wearIn := goodIn_r _ [80, 19, 31, 81, 82, 83, 84, 85, 86, 87, 88, 89, 90, 91, 92, 93, 94, 95, 96, 97, 98, 99, 100, 101, 102, 103, 104, 105, 106, 107, 108, 109, 110, 111, 112, 113, 114] (by decide +kernel) (by decide +kernel)
set_option maxRecDepth 20000 in
theorem gX12_wear_X12_wearIn : GoodIn wsX12_wear (wsV RX12 372 RX12 yX12_wearIn wsX12_wearIn) := goodIn_app (goodIn_of _ (by decide +kernel)) ggX12_wear_X12_wearIn
theorem dX12_wear_0 : decode cX12_wear 0 = .ok (.aload_n 0, 1) := by decide +kernel
theorem dX12_wear_1 : decode cX12_wear 1 = .ok (.iload_n 1, 1) := by decide +kernel
theorem dX12_wear_2 : decode cX12_wear 2 = .ok (.invokevirtual 320, 3) := by decide +kernel
theorem dX12_wear_5 : decode cX12_wear 5 = .ok (.ifCond .eq 11, 3) := by decide +kernel
theorem dX12_wear_8 : decode cX12_wear 8 = .ok (.aload_n 0, 1) := by decide +kernel
theorem dX12_wear_9 : decode cX12_wear 9 = .ok (.iload_n 2, 1) := by decide +kernel
theorem dX12_wear_10 : decode cX12_wear 10 = .ok (.invokevirtual 359, 3) := by decide +kernel
theorem dX12_wear_13 : decode cX12_wear 13 = .ok (.ifCond .ne 6, 3) := by decide +kernel
theorem dX12_wear_16 : decode cX12_wear 16 = .ok (.bipush (-2), 2) := by decide +kernel
theorem dX12_wear_18 : decode cX12_wear 18 = .ok (.ireturn, 1) := by decide +kernel
theorem dX12_wear_19 : decode cX12_wear 19 = .ok (.aload_n 0, 1) := by decide +kernel
theorem dX12_wear_20 : decode cX12_wear 20 = .ok (.iconst 0, 1) := by decide +kernel
theorem dX12_wear_21 : decode cX12_wear 21 = .ok (.invokevirtual 378, 3) := by decide +kernel
theorem dX12_wear_24 : decode cX12_wear 24 = .ok (.aload_n 0, 1) := by decide +kernel
theorem dX12_wear_25 : decode cX12_wear 25 = .ok (.iload_n 1, 1) := by decide +kernel
theorem dX12_wear_26 : decode cX12_wear 26 = .ok (.iconst 0, 1) := by decide +kernel
theorem dX12_wear_27 : decode cX12_wear 27 = .ok (.invokevirtual 368, 3) := by decide +kernel
theorem dX12_wear_30 : decode cX12_wear 30 = .ok (.iconst 0, 1) := by decide +kernel
theorem dX12_wear_31 : decode cX12_wear 31 = .ok (.istore_n 3, 1) := by decide +kernel
theorem dX12_wear_32 : decode cX12_wear 32 = .ok (.iconst 0, 1) := by decide +kernel
theorem dX12_wear_33 : decode cX12_wear 33 = .ok (.istore 4, 2) := by decide +kernel
theorem dX12_wear_35 : decode cX12_wear 35 = .ok (.iload 4, 2) := by decide +kernel
theorem dX12_wear_37 : decode cX12_wear 37 = .ok (.iload_n 2, 1) := by decide +kernel
theorem dX12_wear_38 : decode cX12_wear 38 = .ok (.if_icmp .gt 18, 3) := by decide +kernel
theorem dX12_wear_41 : decode cX12_wear 41 = .ok (.iload_n 3, 1) := by decide +kernel
theorem dX12_wear_42 : decode cX12_wear 42 = .ok (.aload_n 0, 1) := by decide +kernel
theorem dX12_wear_43 : decode cX12_wear 43 = .ok (.iload 4, 2) := by decide +kernel
theorem dX12_wear_45 : decode cX12_wear 45 = .ok (.invokevirtual 372, 3) := by decide +kernel
theorem dX12_wear_48 : decode cX12_wear 48 = .ok (.iadd, 1) := by decide +kernel
theorem dX12_wear_49 : decode cX12_wear 49 = .ok (.istore_n 3, 1) := by decide +kernel
theorem dX12_wear_50 : decode cX12_wear 50 = .ok (.iinc 4 1, 3) := by decide +kernel
theorem dX12_wear_53 : decode cX12_wear 53 = .ok (.goto (-18), 3) := by decide +kernel
theorem dX12_wear_56 : decode cX12_wear 56 = .ok (.iload_n 3, 1) := by decide +kernel
theorem dX12_wear_57 : decode cX12_wear 57 = .ok (.ireturn, 1) := by decide +kernel
set_option maxRecDepth 20000 in
theorem ggX12_goes_X12_isPipe : GoodIn wsX12_goes wsX12_isPipe := goodIn_r _ [5, 6, 7, 8, 4, 9, 86, 87, 88, 89, 90, 91, 92, 93, 94, 95, 96, 97, 98, 99, 100, 101, 102, 103, 104, 105, 106, 107, 108, 109, 110, 111, 112, 113, 114, 115, 116, 117, 118, 119] (by decide +kernel) (by decide +kernel)
set_option maxRecDepth 20000 in
theorem gX12_goes_X12_isPipe : GoodIn wsX12_goes (wsV RX12 320 RX12 yX12_isPipe wsX12_isPipe) := goodIn_app (goodIn_of _ (by decide +kernel)) ggX12_goes_X12_isPipe
set_option maxRecDepth 20000 in
theorem ggX12_goes_X12_goesOf : GoodIn wsX12_goes wsX12_goesOf := goodIn_r _ [13, 14, 15, 16, 4, 17, 6, 18, 19, 20, 21, 22, 23, 24, 25, 26, 27, 28, 29, 30, 31, 32, 33, 34, 35, 36, 37, 38, 39, 40, 41, 42, 43, 44, 45, 46, 47, 48, 49, 50, 51, 52, 53, 54, 55, 56, 57, 58, 59, 60, 61, 62, 63, 64, 65, 66, 67, 68, 69, 70, 71, 72, 73, 74, 75, 76, 77, 78, 79, 80, 81, 82, 83, 84, 85, 86, 87, 88, 89, 90, 91, 92, 93, 94, 95, 96, 97, 98, 99, 100, 101, 102, 103, 104, 105, 106, 107, 108, 109, 110, 111, 112, 113, 114, 115, 116, 117, 118, 119] (by decide +kernel) (by decide +kernel)
set_option maxRecDepth 20000 in
theorem gX12_goes_X12_goesOf : GoodIn wsX12_goes (wsV RX12 384 RX12 yX12_goesOf wsX12_goesOf) := goodIn_app (goodIn_of _ (by decide +kernel)) ggX12_goes_X12_goesOf
theorem dX12_goes_0 : decode cX12_goes 0 = .ok (.aload_n 0, 1) := by decide +kernel
theorem dX12_goes_1 : decode cX12_goes 1 = .ok (.iload_n 1, 1) := by decide +kernel
theorem dX12_goes_2 : decode cX12_goes 2 = .ok (.invokevirtual 320, 3) := by decide +kernel
theorem dX12_goes_5 : decode cX12_goes 5 = .ok (.ifCond .eq 11, 3) := by decide +kernel
theorem dX12_goes_8 : decode cX12_goes 8 = .ok (.aload_n 0, 1) := by decide +kernel
theorem dX12_goes_9 : decode cX12_goes 9 = .ok (.iload_n 1, 1) := by decide +kernel
theorem dX12_goes_10 : decode cX12_goes 10 = .ok (.invokevirtual 384, 3) := by decide +kernel
theorem dX12_goes_13 : decode cX12_goes 13 = .ok (.goto 5, 3) := by decide +kernel
theorem dX12_goes_16 : decode cX12_goes 16 = .ok (.bipush (-2), 2) := by decide +kernel
theorem dX12_goes_18 : decode cX12_goes 18 = .ok (.ireturn, 1) := by decide +kernel
set_option maxRecDepth 20000 in
theorem ggX12_why_X12_isPipe : GoodIn wsX12_why wsX12_isPipe := goodIn_r _ [6, 7, 8, 9, 5, 10, 86, 87, 88, 89, 90, 91, 92, 93, 94, 95, 96, 97, 98, 99, 100, 101, 102, 103, 104, 105, 106, 107, 108, 109, 110, 111, 112, 113, 114, 115, 116, 117, 118, 119] (by decide +kernel) (by decide +kernel)
set_option maxRecDepth 20000 in
theorem gX12_why_X12_isPipe : GoodIn wsX12_why (wsV RX12 320 RX12 yX12_isPipe wsX12_isPipe) := goodIn_app (goodIn_of _ (by decide +kernel)) ggX12_why_X12_isPipe
set_option maxRecDepth 20000 in
theorem ggX12_why_X12_goesOf : GoodIn wsX12_why wsX12_goesOf := goodIn_r _ [14, 15, 16, 17, 5, 18, 7, 19, 20, 21, 22, 23, 24, 25, 26, 27, 28, 29, 30, 31, 32, 1, 33, 34, 35, 36, 37, 38, 39, 40, 41, 42, 43, 44, 45, 46, 47, 48, 49, 50, 51, 52, 53, 54, 55, 56, 57, 58, 59, 60, 61, 62, 63, 64, 65, 66, 67, 68, 69, 70, 71, 72, 73, 74, 75, 76, 77, 78, 79, 80, 81, 82, 83, 84, 85, 86, 87, 88, 89, 90, 91, 92, 93, 94, 95, 96, 97, 98, 99, 100, 101, 102, 103, 104, 105, 106, 107, 108, 109, 110, 111, 112, 113, 114, 115, 116, 117, 118, 119] (by decide +kernel) (by decide +kernel)
set_option maxRecDepth 20000 in
theorem gX12_why_X12_goesOf : GoodIn wsX12_why (wsV RX12 384 RX12 yX12_goesOf wsX12_goesOf) := goodIn_app (goodIn_of _ (by decide +kernel)) ggX12_why_X12_goesOf
theorem dX12_why_0 : decode cX12_why 0 = .ok (.aload_n 0, 1) := by decide +kernel
theorem dX12_why_1 : decode cX12_why 1 = .ok (.iload_n 1, 1) := by decide +kernel
theorem dX12_why_2 : decode cX12_why 2 = .ok (.invokevirtual 320, 3) := by decide +kernel
theorem dX12_why_5 : decode cX12_why 5 = .ok (.ifCond .ne 6, 3) := by decide +kernel
theorem dX12_why_8 : decode cX12_why 8 = .ok (.bipush (-2), 2) := by decide +kernel
theorem dX12_why_10 : decode cX12_why 10 = .ok (.ireturn, 1) := by decide +kernel
theorem dX12_why_11 : decode cX12_why 11 = .ok (.aload_n 0, 1) := by decide +kernel
theorem dX12_why_12 : decode cX12_why 12 = .ok (.iload_n 1, 1) := by decide +kernel
theorem dX12_why_13 : decode cX12_why 13 = .ok (.invokevirtual 384, 3) := by decide +kernel
theorem dX12_why_16 : decode cX12_why 16 = .ok (.iconst (-1), 1) := by decide +kernel
theorem dX12_why_17 : decode cX12_why 17 = .ok (.if_icmp .ne 7, 3) := by decide +kernel
theorem dX12_why_20 : decode cX12_why 20 = .ok (.iconst (-1), 1) := by decide +kernel
theorem dX12_why_21 : decode cX12_why 21 = .ok (.goto 7, 3) := by decide +kernel
theorem dX12_why_24 : decode cX12_why 24 = .ok (.aload_n 0, 1) := by decide +kernel
theorem dX12_why_25 : decode cX12_why 25 = .ok (.getfield 375, 3) := by decide +kernel
theorem dX12_why_28 : decode cX12_why 28 = .ok (.ireturn, 1) := by decide +kernel
theorem dX12_burstsOf_0 : decode cX12_burstsOf 0 = .ok (.iconst 0, 1) := by decide +kernel
theorem dX12_burstsOf_1 : decode cX12_burstsOf 1 = .ok (.istore_n 2, 1) := by decide +kernel
theorem dX12_burstsOf_2 : decode cX12_burstsOf 2 = .ok (.iload_n 2, 1) := by decide +kernel
theorem dX12_burstsOf_3 : decode cX12_burstsOf 3 = .ok (.aload_n 0, 1) := by decide +kernel
theorem dX12_burstsOf_4 : decode cX12_burstsOf 4 = .ok (.getfield 13, 3) := by decide +kernel
theorem dX12_burstsOf_7 : decode cX12_burstsOf 7 = .ok (.bipush 6, 2) := by decide +kernel
theorem dX12_burstsOf_9 : decode cX12_burstsOf 9 = .ok (.iaload, 1) := by decide +kernel
theorem dX12_burstsOf_10 : decode cX12_burstsOf 10 = .ok (.if_icmp .ge 37, 3) := by decide +kernel
theorem dX12_burstsOf_13 : decode cX12_burstsOf 13 = .ok (.aload_n 0, 1) := by decide +kernel
theorem dX12_burstsOf_14 : decode cX12_burstsOf 14 = .ok (.getfield 13, 3) := by decide +kernel
theorem dX12_burstsOf_17 : decode cX12_burstsOf 17 = .ok (.sipush 482, 3) := by decide +kernel
theorem dX12_burstsOf_20 : decode cX12_burstsOf 20 = .ok (.iload_n 2, 1) := by decide +kernel
theorem dX12_burstsOf_21 : decode cX12_burstsOf 21 = .ok (.iadd, 1) := by decide +kernel
theorem dX12_burstsOf_22 : decode cX12_burstsOf 22 = .ok (.iaload, 1) := by decide +kernel
theorem dX12_burstsOf_23 : decode cX12_burstsOf 23 = .ok (.aload_n 0, 1) := by decide +kernel
theorem dX12_burstsOf_24 : decode cX12_burstsOf 24 = .ok (.getfield 13, 3) := by decide +kernel
theorem dX12_burstsOf_27 : decode cX12_burstsOf 27 = .ok (.bipush 10, 2) := by decide +kernel
theorem dX12_burstsOf_29 : decode cX12_burstsOf 29 = .ok (.iconst 2, 1) := by decide +kernel
theorem dX12_burstsOf_30 : decode cX12_burstsOf 30 = .ok (.iload_n 1, 1) := by decide +kernel
theorem dX12_burstsOf_31 : decode cX12_burstsOf 31 = .ok (.imul, 1) := by decide +kernel
theorem dX12_burstsOf_32 : decode cX12_burstsOf 32 = .ok (.iadd, 1) := by decide +kernel
theorem dX12_burstsOf_33 : decode cX12_burstsOf 33 = .ok (.iconst 1, 1) := by decide +kernel
theorem dX12_burstsOf_34 : decode cX12_burstsOf 34 = .ok (.iadd, 1) := by decide +kernel
theorem dX12_burstsOf_35 : decode cX12_burstsOf 35 = .ok (.iaload, 1) := by decide +kernel
theorem dX12_burstsOf_36 : decode cX12_burstsOf 36 = .ok (.if_icmp .le 5, 3) := by decide +kernel
theorem dX12_burstsOf_39 : decode cX12_burstsOf 39 = .ok (.iload_n 2, 1) := by decide +kernel
theorem dX12_burstsOf_40 : decode cX12_burstsOf 40 = .ok (.ireturn, 1) := by decide +kernel
theorem dX12_burstsOf_41 : decode cX12_burstsOf 41 = .ok (.iinc 2 1, 3) := by decide +kernel
theorem dX12_burstsOf_44 : decode cX12_burstsOf 44 = .ok (.goto (-42), 3) := by decide +kernel
theorem dX12_burstsOf_47 : decode cX12_burstsOf 47 = .ok (.iconst (-1), 1) := by decide +kernel
theorem dX12_burstsOf_48 : decode cX12_burstsOf 48 = .ok (.ireturn, 1) := by decide +kernel
set_option maxRecDepth 20000 in
theorem ggX12_bursts_X12_isPot : GoodIn wsX12_bursts wsX12_isPot := goodIn_r _ [5, 6, 7, 8, 4, 9, 14, 15, 16, 17, 18, 19, 20, 21, 22, 23, 24, 25, 26, 27, 28, 29, 30, 31, 32, 33, 34, 35, 36, 37, 38, 39, 40, 41, 42, 43, 44, 45, 46, 47] (by decide +kernel) (by decide +kernel)
set_option maxRecDepth 20000 in
theorem gX12_bursts_X12_isPot : GoodIn wsX12_bursts (wsV RX12 299 RX12 yX12_isPot wsX12_isPot) := goodIn_app (goodIn_of _ (by decide +kernel)) ggX12_bursts_X12_isPot
set_option maxRecDepth 20000 in
theorem ggX12_bursts_X12_burstsOf : GoodIn wsX12_bursts wsX12_burstsOf := goodIn_r _ [13, 6, 14, 15, 16, 17, 18, 19, 20, 21, 22, 23, 24, 25, 26, 27, 28, 29, 30, 31, 32, 33, 34, 35, 36, 37, 38, 39, 40, 41, 42, 43, 44, 45, 46, 47] (by decide +kernel) (by decide +kernel)
set_option maxRecDepth 20000 in
theorem gX12_bursts_X12_burstsOf : GoodIn wsX12_bursts (wsV RX12 387 RX12 yX12_burstsOf wsX12_burstsOf) := goodIn_app (goodIn_of _ (by decide +kernel)) ggX12_bursts_X12_burstsOf
theorem dX12_bursts_0 : decode cX12_bursts 0 = .ok (.aload_n 0, 1) := by decide +kernel
theorem dX12_bursts_1 : decode cX12_bursts 1 = .ok (.iload_n 1, 1) := by decide +kernel
theorem dX12_bursts_2 : decode cX12_bursts 2 = .ok (.invokevirtual 299, 3) := by decide +kernel
theorem dX12_bursts_5 : decode cX12_bursts 5 = .ok (.ifCond .eq 11, 3) := by decide +kernel
theorem dX12_bursts_8 : decode cX12_bursts 8 = .ok (.aload_n 0, 1) := by decide +kernel
theorem dX12_bursts_9 : decode cX12_bursts 9 = .ok (.iload_n 1, 1) := by decide +kernel
theorem dX12_bursts_10 : decode cX12_bursts 10 = .ok (.invokevirtual 387, 3) := by decide +kernel
theorem dX12_bursts_13 : decode cX12_bursts 13 = .ok (.goto 5, 3) := by decide +kernel
theorem dX12_bursts_16 : decode cX12_bursts 16 = .ok (.bipush (-2), 2) := by decide +kernel
theorem dX12_bursts_18 : decode cX12_bursts 18 = .ok (.ireturn, 1) := by decide +kernel
set_option maxRecDepth 20000 in
theorem ggX12_firstBut_X12_goesOf : GoodIn wsX12_firstBut wsX12_goesOf := goodIn_r _ [6, 7, 8, 9, 5, 10, 1, 11, 12, 13, 14, 15, 16, 17, 18, 19, 20, 21, 22, 23, 24, 25, 26, 27, 28, 29, 30, 31, 32, 33, 34, 35, 36, 37, 38, 39, 40, 41, 42, 43, 44, 45, 46, 47, 48, 49, 50, 51, 52, 53, 54, 55, 56, 57, 58, 59, 60, 61, 62, 63, 64, 65, 66, 67, 68, 69, 70, 71, 72, 73, 74, 75, 76, 77, 78, 83, 84, 85, 86, 87, 88, 89, 90, 91, 92, 93, 94, 95, 96, 97, 98, 99, 100, 101, 102, 103, 104, 105, 106, 107, 108, 109, 110, 111, 112, 113, 114, 115, 116] (by decide +kernel) (by decide +kernel)
set_option maxRecDepth 20000 in
theorem gX12_firstBut_X12_goesOf : GoodIn wsX12_firstBut (wsV RX12 384 RX12 yX12_goesOf wsX12_goesOf) := goodIn_app (goodIn_of _ (by decide +kernel)) ggX12_firstBut_X12_goesOf
set_option maxRecDepth 20000 in
theorem ggX12_firstBut_X12_burstsOf : GoodIn wsX12_firstBut wsX12_burstsOf := goodIn_r _ [82, 1, 83, 84, 85, 86, 87, 88, 89, 90, 91, 92, 93, 94, 95, 96, 97, 98, 99, 100, 101, 102, 103, 104, 105, 106, 107, 108, 109, 110, 111, 112, 113, 114, 115, 116] (by decide +kernel) (by decide +kernel)
set_option maxRecDepth 20000 in
theorem gX12_firstBut_X12_burstsOf : GoodIn wsX12_firstBut (wsV RX12 387 RX12 yX12_burstsOf wsX12_burstsOf) := goodIn_app (goodIn_of _ (by decide +kernel)) ggX12_firstBut_X12_burstsOf
theorem dX12_firstBut_0 : decode cX12_firstBut 0 = .ok (.iconst (-1), 1) := by decide +kernel
theorem dX12_firstBut_1 : decode cX12_firstBut 1 = .ok (.istore_n 3, 1) := by decide +kernel
theorem dX12_firstBut_2 : decode cX12_firstBut 2 = .ok (.iconst (-1), 1) := by decide +kernel
theorem dX12_firstBut_3 : decode cX12_firstBut 3 = .ok (.istore 4, 2) := by decide +kernel
theorem dX12_firstBut_5 : decode cX12_firstBut 5 = .ok (.iconst 0, 1) := by decide +kernel
theorem dX12_firstBut_6 : decode cX12_firstBut 6 = .ok (.istore 5, 2) := by decide +kernel
theorem dX12_firstBut_8 : decode cX12_firstBut 8 = .ok (.iload 5, 2) := by decide +kernel
theorem dX12_firstBut_10 : decode cX12_firstBut 10 = .ok (.aload_n 0, 1) := by decide +kernel
theorem dX12_firstBut_11 : decode cX12_firstBut 11 = .ok (.getfield 13, 3) := by decide +kernel
theorem dX12_firstBut_14 : decode cX12_firstBut 14 = .ok (.iconst 2, 1) := by decide +kernel
theorem dX12_firstBut_15 : decode cX12_firstBut 15 = .ok (.iaload, 1) := by decide +kernel
theorem dX12_firstBut_16 : decode cX12_firstBut 16 = .ok (.if_icmp .ge 52, 3) := by decide +kernel
theorem dX12_firstBut_19 : decode cX12_firstBut 19 = .ok (.aload_n 0, 1) := by decide +kernel
theorem dX12_firstBut_20 : decode cX12_firstBut 20 = .ok (.iload 5, 2) := by decide +kernel
theorem dX12_firstBut_22 : decode cX12_firstBut 22 = .ok (.invokevirtual 384, 3) := by decide +kernel
theorem dX12_firstBut_25 : decode cX12_firstBut 25 = .ok (.istore 6, 2) := by decide +kernel
theorem dX12_firstBut_27 : decode cX12_firstBut 27 = .ok (.iload 5, 2) := by decide +kernel
theorem dX12_firstBut_29 : decode cX12_firstBut 29 = .ok (.iload_n 1, 1) := by decide +kernel
theorem dX12_firstBut_30 : decode cX12_firstBut 30 = .ok (.if_icmp .eq 32, 3) := by decide +kernel
theorem dX12_firstBut_33 : decode cX12_firstBut 33 = .ok (.iload 6, 2) := by decide +kernel
theorem dX12_firstBut_35 : decode cX12_firstBut 35 = .ok (.iconst (-1), 1) := by decide +kernel
theorem dX12_firstBut_36 : decode cX12_firstBut 36 = .ok (.if_icmp .eq 26, 3) := by decide +kernel
theorem dX12_firstBut_39 : decode cX12_firstBut 39 = .ok (.iload 4, 2) := by decide +kernel
theorem dX12_firstBut_41 : decode cX12_firstBut 41 = .ok (.iconst (-1), 1) := by decide +kernel
theorem dX12_firstBut_42 : decode cX12_firstBut 42 = .ok (.if_icmp .eq 13, 3) := by decide +kernel
theorem dX12_firstBut_45 : decode cX12_firstBut 45 = .ok (.iload 6, 2) := by decide +kernel
theorem dX12_firstBut_47 : decode cX12_firstBut 47 = .ok (.iload 4, 2) := by decide +kernel
theorem dX12_firstBut_49 : decode cX12_firstBut 49 = .ok (.if_icmp .lt 6, 3) := by decide +kernel
theorem dX12_firstBut_52 : decode cX12_firstBut 52 = .ok (.goto 10, 3) := by decide +kernel
theorem dX12_firstBut_55 : decode cX12_firstBut 55 = .ok (.iload 5, 2) := by decide +kernel
theorem dX12_firstBut_57 : decode cX12_firstBut 57 = .ok (.istore_n 3, 1) := by decide +kernel
theorem dX12_firstBut_58 : decode cX12_firstBut 58 = .ok (.iload 6, 2) := by decide +kernel
theorem dX12_firstBut_60 : decode cX12_firstBut 60 = .ok (.istore 4, 2) := by decide +kernel
theorem dX12_firstBut_62 : decode cX12_firstBut 62 = .ok (.iinc 5 1, 3) := by decide +kernel
theorem dX12_firstBut_65 : decode cX12_firstBut 65 = .ok (.goto (-57), 3) := by decide +kernel
theorem dX12_firstBut_68 : decode cX12_firstBut 68 = .ok (.iconst 0, 1) := by decide +kernel
theorem dX12_firstBut_69 : decode cX12_firstBut 69 = .ok (.istore 5, 2) := by decide +kernel
theorem dX12_firstBut_71 : decode cX12_firstBut 71 = .ok (.iload 5, 2) := by decide +kernel
theorem dX12_firstBut_73 : decode cX12_firstBut 73 = .ok (.aload_n 0, 1) := by decide +kernel
theorem dX12_firstBut_74 : decode cX12_firstBut 74 = .ok (.getfield 13, 3) := by decide +kernel
theorem dX12_firstBut_77 : decode cX12_firstBut 77 = .ok (.iconst 1, 1) := by decide +kernel
theorem dX12_firstBut_78 : decode cX12_firstBut 78 = .ok (.iaload, 1) := by decide +kernel
theorem dX12_firstBut_79 : decode cX12_firstBut 79 = .ok (.if_icmp .ge 58, 3) := by decide +kernel
theorem dX12_firstBut_82 : decode cX12_firstBut 82 = .ok (.aload_n 0, 1) := by decide +kernel
theorem dX12_firstBut_83 : decode cX12_firstBut 83 = .ok (.iload 5, 2) := by decide +kernel
theorem dX12_firstBut_85 : decode cX12_firstBut 85 = .ok (.invokevirtual 387, 3) := by decide +kernel
theorem dX12_firstBut_88 : decode cX12_firstBut 88 = .ok (.istore 6, 2) := by decide +kernel
theorem dX12_firstBut_90 : decode cX12_firstBut 90 = .ok (.bipush 100, 2) := by decide +kernel
theorem dX12_firstBut_92 : decode cX12_firstBut 92 = .ok (.iload 5, 2) := by decide +kernel
theorem dX12_firstBut_94 : decode cX12_firstBut 94 = .ok (.iadd, 1) := by decide +kernel
theorem dX12_firstBut_95 : decode cX12_firstBut 95 = .ok (.iload_n 1, 1) := by decide +kernel
theorem dX12_firstBut_96 : decode cX12_firstBut 96 = .ok (.if_icmp .eq 35, 3) := by decide +kernel
theorem dX12_firstBut_99 : decode cX12_firstBut 99 = .ok (.iload 6, 2) := by decide +kernel
theorem dX12_firstBut_101 : decode cX12_firstBut 101 = .ok (.iconst (-1), 1) := by decide +kernel
theorem dX12_firstBut_102 : decode cX12_firstBut 102 = .ok (.if_icmp .eq 29, 3) := by decide +kernel
theorem dX12_firstBut_105 : decode cX12_firstBut 105 = .ok (.iload 4, 2) := by decide +kernel
theorem dX12_firstBut_107 : decode cX12_firstBut 107 = .ok (.iconst (-1), 1) := by decide +kernel
theorem dX12_firstBut_108 : decode cX12_firstBut 108 = .ok (.if_icmp .eq 13, 3) := by decide +kernel
theorem dX12_firstBut_111 : decode cX12_firstBut 111 = .ok (.iload 6, 2) := by decide +kernel
theorem dX12_firstBut_113 : decode cX12_firstBut 113 = .ok (.iload 4, 2) := by decide +kernel
theorem dX12_firstBut_115 : decode cX12_firstBut 115 = .ok (.if_icmp .lt 6, 3) := by decide +kernel
theorem dX12_firstBut_118 : decode cX12_firstBut 118 = .ok (.goto 13, 3) := by decide +kernel
theorem dX12_firstBut_121 : decode cX12_firstBut 121 = .ok (.bipush 100, 2) := by decide +kernel
theorem dX12_firstBut_123 : decode cX12_firstBut 123 = .ok (.iload 5, 2) := by decide +kernel
theorem dX12_firstBut_125 : decode cX12_firstBut 125 = .ok (.iadd, 1) := by decide +kernel
theorem dX12_firstBut_126 : decode cX12_firstBut 126 = .ok (.istore_n 3, 1) := by decide +kernel
theorem dX12_firstBut_127 : decode cX12_firstBut 127 = .ok (.iload 6, 2) := by decide +kernel
theorem dX12_firstBut_129 : decode cX12_firstBut 129 = .ok (.istore 4, 2) := by decide +kernel
theorem dX12_firstBut_131 : decode cX12_firstBut 131 = .ok (.iinc 5 1, 3) := by decide +kernel
theorem dX12_firstBut_134 : decode cX12_firstBut 134 = .ok (.goto (-63), 3) := by decide +kernel
theorem dX12_firstBut_137 : decode cX12_firstBut 137 = .ok (.iload_n 2, 1) := by decide +kernel
theorem dX12_firstBut_138 : decode cX12_firstBut 138 = .ok (.ifCond .ne 7, 3) := by decide +kernel
theorem dX12_firstBut_141 : decode cX12_firstBut 141 = .ok (.iload_n 3, 1) := by decide +kernel
theorem dX12_firstBut_142 : decode cX12_firstBut 142 = .ok (.goto 14, 3) := by decide +kernel
theorem dX12_firstBut_145 : decode cX12_firstBut 145 = .ok (.iload_n 2, 1) := by decide +kernel
theorem dX12_firstBut_146 : decode cX12_firstBut 146 = .ok (.iconst 1, 1) := by decide +kernel
theorem dX12_firstBut_147 : decode cX12_firstBut 147 = .ok (.if_icmp .ne 8, 3) := by decide +kernel
theorem dX12_firstBut_150 : decode cX12_firstBut 150 = .ok (.iload 4, 2) := by decide +kernel
theorem dX12_firstBut_152 : decode cX12_firstBut 152 = .ok (.goto 4, 3) := by decide +kernel
theorem dX12_firstBut_155 : decode cX12_firstBut 155 = .ok (.iconst (-1), 1) := by decide +kernel
theorem dX12_firstBut_156 : decode cX12_firstBut 156 = .ok (.ireturn, 1) := by decide +kernel
set_option maxRecDepth 20000 in
theorem ggX12_first_X12_firstBut : GoodIn wsX12_first wsX12_firstBut := goodIn_r _ [5, 6, 7, 8, 9, 4, 10, 11, 12, 13, 14, 15, 16, 17, 18, 19, 20, 21, 22, 23, 24, 25, 26, 27, 28, 29, 30, 31, 32, 33, 34, 35, 36, 37, 38, 39, 40, 41, 42, 43, 44, 45, 46, 47, 48, 49, 50, 51, 52, 53, 54, 55, 56, 57, 58, 59, 60, 61, 62, 63, 64, 65, 66, 67, 68, 69, 70, 71, 72, 73, 74, 75, 76, 77, 78, 79, 80, 81, 82, 83, 84, 85, 86, 87, 88, 89, 90, 91, 92, 93, 94, 95, 96, 97, 98, 99, 100, 101, 102, 103, 104, 105, 106, 107, 108, 109, 110, 111, 112, 113, 114, 115, 116, 117, 118, 119, 120] (by decide +kernel) (by decide +kernel)
set_option maxRecDepth 20000 in
theorem gX12_first_X12_firstBut : GoodIn wsX12_first (wsV RX12 390 RX12 yX12_firstBut wsX12_firstBut) := goodIn_app (goodIn_of _ (by decide +kernel)) ggX12_first_X12_firstBut
theorem dX12_first_0 : decode cX12_first 0 = .ok (.aload_n 0, 1) := by decide +kernel
theorem dX12_first_1 : decode cX12_first 1 = .ok (.iconst (-1), 1) := by decide +kernel
theorem dX12_first_2 : decode cX12_first 2 = .ok (.iload_n 1, 1) := by decide +kernel
theorem dX12_first_3 : decode cX12_first 3 = .ok (.invokevirtual 390, 3) := by decide +kernel
theorem dX12_first_6 : decode cX12_first 6 = .ok (.ireturn, 1) := by decide +kernel
set_option maxRecDepth 20000 in
theorem ggX12_next_X12_isPipe : GoodIn wsX12_next wsX12_isPipe := goodIn_r _ [5, 6, 7, 8, 4, 9, 98, 99, 100, 101, 102, 103, 104, 105, 106, 107, 108, 109, 110, 111, 112, 113, 114, 115, 116, 117, 118, 119, 120, 121, 122, 123, 124, 125, 126, 127, 128, 129, 130, 131] (by decide +kernel) (by decide +kernel)
set_option maxRecDepth 20000 in
theorem gX12_next_X12_isPipe : GoodIn wsX12_next (wsV RX12 320 RX12 yX12_isPipe wsX12_isPipe) := goodIn_app (goodIn_of _ (by decide +kernel)) ggX12_next_X12_isPipe
set_option maxRecDepth 20000 in
theorem ggX12_next_X12_isPot : GoodIn wsX12_next wsX12_isPot := goodIn_r _ [13, 6, 7, 8, 4, 9, 98, 99, 100, 101, 102, 103, 104, 105, 106, 107, 108, 109, 110, 111, 112, 113, 114, 115, 116, 117, 118, 119, 120, 121, 122, 123, 124, 125, 126, 127, 128, 129, 130, 131] (by decide +kernel) (by decide +kernel)
set_option maxRecDepth 20000 in
theorem gX12_next_X12_isPot : GoodIn wsX12_next (wsV RX12 299 RX12 yX12_isPot wsX12_isPot) := goodIn_app (goodIn_of _ (by decide +kernel)) ggX12_next_X12_isPot
set_option maxRecDepth 20000 in
theorem ggX12_next_X12_firstBut : GoodIn wsX12_next wsX12_firstBut := goodIn_r _ [17, 6, 18, 19, 20, 4, 21, 22, 23, 24, 25, 26, 27, 28, 29, 30, 31, 32, 33, 34, 35, 36, 37, 38, 39, 40, 41, 42, 43, 44, 45, 46, 47, 48, 49, 50, 51, 52, 53, 54, 55, 56, 57, 58, 59, 60, 61, 62, 63, 64, 65, 66, 67, 68, 69, 70, 71, 72, 73, 74, 75, 76, 77, 78, 79, 80, 81, 82, 83, 84, 85, 86, 87, 88, 89, 90, 91, 92, 93, 94, 95, 96, 97, 98, 99, 100, 101, 102, 103, 104, 105, 106, 107, 108, 109, 110, 111, 112, 113, 114, 115, 116, 117, 118, 119, 120, 121, 122, 123, 124, 125, 126, 127, 128, 129, 130, 131] (by decide +kernel) (by decide +kernel)
set_option maxRecDepth 20000 in
theorem gX12_next_X12_firstBut : GoodIn wsX12_next (wsV RX12 390 RX12 yX12_firstBut wsX12_firstBut) := goodIn_app (goodIn_of _ (by decide +kernel)) ggX12_next_X12_firstBut
theorem dX12_next_0 : decode cX12_next 0 = .ok (.aload_n 0, 1) := by decide +kernel
theorem dX12_next_1 : decode cX12_next 1 = .ok (.iload_n 1, 1) := by decide +kernel
theorem dX12_next_2 : decode cX12_next 2 = .ok (.invokevirtual 320, 3) := by decide +kernel
theorem dX12_next_5 : decode cX12_next 5 = .ok (.ifCond .ne 23, 3) := by decide +kernel
theorem dX12_next_8 : decode cX12_next 8 = .ok (.iload_n 1, 1) := by decide +kernel
theorem dX12_next_9 : decode cX12_next 9 = .ok (.bipush 100, 2) := by decide +kernel
theorem dX12_next_11 : decode cX12_next 11 = .ok (.if_icmp .lt 14, 3) := by decide +kernel
theorem dX12_next_14 : decode cX12_next 14 = .ok (.aload_n 0, 1) := by decide +kernel
theorem dX12_next_15 : decode cX12_next 15 = .ok (.iload_n 1, 1) := by decide +kernel
theorem dX12_next_16 : decode cX12_next 16 = .ok (.bipush 100, 2) := by decide +kernel
theorem dX12_next_18 : decode cX12_next 18 = .ok (.isub, 1) := by decide +kernel
theorem dX12_next_19 : decode cX12_next 19 = .ok (.invokevirtual 299, 3) := by decide +kernel
theorem dX12_next_22 : decode cX12_next 22 = .ok (.ifCond .ne 6, 3) := by decide +kernel
theorem dX12_next_25 : decode cX12_next 25 = .ok (.bipush (-2), 2) := by decide +kernel
theorem dX12_next_27 : decode cX12_next 27 = .ok (.ireturn, 1) := by decide +kernel
theorem dX12_next_28 : decode cX12_next 28 = .ok (.aload_n 0, 1) := by decide +kernel
theorem dX12_next_29 : decode cX12_next 29 = .ok (.iload_n 1, 1) := by decide +kernel
theorem dX12_next_30 : decode cX12_next 30 = .ok (.iload_n 2, 1) := by decide +kernel
theorem dX12_next_31 : decode cX12_next 31 = .ok (.invokevirtual 390, 3) := by decide +kernel
theorem dX12_next_34 : decode cX12_next 34 = .ok (.ireturn, 1) := by decide +kernel
set_option maxRecDepth 20000 in
theorem ggX12_under_X12_isPipe : GoodIn wsX12_under wsX12_isPipe := goodIn_r _ [7, 8, 9, 10, 6, 11, 84, 85, 86, 87, 88, 89, 90, 91, 92, 93, 94, 95, 96, 97, 98, 99, 100, 101, 102, 103, 104, 105, 106, 107, 108, 109, 110, 111, 112, 113, 114, 115, 116, 117] (by decide +kernel) (by decide +kernel)
set_option maxRecDepth 20000 in
theorem gX12_under_X12_isPipe : GoodIn wsX12_under (wsV RX12 320 RX12 yX12_isPipe wsX12_isPipe) := goodIn_app (goodIn_of _ (by decide +kernel)) ggX12_under_X12_isPipe
set_option maxRecDepth 20000 in
theorem ggX12_under_X12_in : GoodIn wsX12_under wsX12_in := goodIn_r _ [11] (by decide +kernel) (by decide +kernel)
set_option maxRecDepth 20000 in
theorem gX12_under_X12_in : GoodIn wsX12_under (va_wsS RX12 76 yX12_in wsX12_in) := goodIn_app (goodIn_of _ (by decide +kernel)) ggX12_under_X12_in
set_option maxRecDepth 20000 in
theorem ggX12_under_X12_lays : GoodIn wsX12_under wsX12_lays := goodIn_r _ [15, 8, 16, 17, 18, 19, 20, 21, 22, 23, 24, 84, 85, 86, 87, 88, 89, 90, 91, 92, 93, 94, 95, 96, 97, 98, 99, 100, 101, 102, 103, 104, 105, 106, 107, 108, 109, 110, 111, 112, 113, 114, 115, 116, 117] (by decide +kernel) (by decide +kernel)
set_option maxRecDepth 20000 in
theorem gX12_under_X12_lays : GoodIn wsX12_under (wsV RX12 378 RX12 yX12_lays wsX12_lays) := goodIn_app (goodIn_of _ (by decide +kernel)) ggX12_under_X12_lays
set_option maxRecDepth 20000 in
theorem ggX12_under_X12_goesBy : GoodIn wsX12_under wsX12_goesBy := goodIn_r _ [28, 16, 29, 17, 30, 31, 32, 33, 6, 34, 35, 36, 37, 38, 39, 40, 41, 42, 20, 43, 44, 45, 46, 47, 48, 49, 50, 51, 8, 52, 53, 54, 55, 56, 57, 58, 59, 60, 61, 62, 63, 64, 65, 66, 67, 68, 69, 70, 71, 72, 73, 74, 75, 76, 77, 78, 79, 80, 81, 82, 83, 84, 85, 86, 87, 88, 89, 90, 91, 92, 93, 94, 95, 96, 97, 98, 99, 100, 101, 102, 103, 104, 105, 106, 107, 108, 109, 110, 111, 112, 113, 114, 115, 116, 117] (by decide +kernel) (by decide +kernel)
set_option maxRecDepth 20000 in
theorem gX12_under_X12_goesBy : GoodIn wsX12_under (wsV RX12 381 RX12 yX12_goesBy wsX12_goesBy) := goodIn_app (goodIn_of _ (by decide +kernel)) ggX12_under_X12_goesBy
theorem dX12_under_0 : decode cX12_under 0 = .ok (.aload_n 0, 1) := by decide +kernel
theorem dX12_under_1 : decode cX12_under 1 = .ok (.iload_n 1, 1) := by decide +kernel
theorem dX12_under_2 : decode cX12_under 2 = .ok (.invokevirtual 320, 3) := by decide +kernel
theorem dX12_under_5 : decode cX12_under 5 = .ok (.ifCond .eq 17, 3) := by decide +kernel
theorem dX12_under_8 : decode cX12_under 8 = .ok (.iload_n 2, 1) := by decide +kernel
theorem dX12_under_9 : decode cX12_under 9 = .ok (.i2l, 1) := by decide +kernel
theorem dX12_under_10 : decode cX12_under 10 = .ok (.ldc2_w 393, 3) := by decide +kernel
theorem dX12_under_13 : decode cX12_under 13 = .ok (.ldc2_w 80, 3) := by decide +kernel
theorem dX12_under_16 : decode cX12_under 16 = .ok (.invokestatic 76, 3) := by decide +kernel
theorem dX12_under_19 : decode cX12_under 19 = .ok (.ifCond .ne 6, 3) := by decide +kernel
theorem dX12_under_22 : decode cX12_under 22 = .ok (.bipush (-2), 2) := by decide +kernel
theorem dX12_under_24 : decode cX12_under 24 = .ok (.ireturn, 1) := by decide +kernel
theorem dX12_under_25 : decode cX12_under 25 = .ok (.aload_n 0, 1) := by decide +kernel
theorem dX12_under_26 : decode cX12_under 26 = .ok (.iload_n 2, 1) := by decide +kernel
theorem dX12_under_27 : decode cX12_under 27 = .ok (.invokevirtual 378, 3) := by decide +kernel
theorem dX12_under_30 : decode cX12_under 30 = .ok (.aload_n 0, 1) := by decide +kernel
theorem dX12_under_31 : decode cX12_under 31 = .ok (.iload_n 1, 1) := by decide +kernel
theorem dX12_under_32 : decode cX12_under 32 = .ok (.iconst 0, 1) := by decide +kernel
theorem dX12_under_33 : decode cX12_under 33 = .ok (.invokevirtual 381, 3) := by decide +kernel
theorem dX12_under_36 : decode cX12_under 36 = .ok (.ireturn, 1) := by decide +kernel
set_option maxRecDepth 20000 in
theorem ggX12_stay_X12_isPipe : GoodIn wsX12_stay wsX12_isPipe := goodIn_r _ [5, 6, 7, 8, 4, 9, 82, 83, 84, 85, 86, 87, 88, 89, 90, 91, 92, 93, 94, 95, 96, 97, 98, 99, 100, 101, 102, 103, 104, 105, 106, 107, 108, 109, 110, 111, 112, 113, 114, 115] (by decide +kernel) (by decide +kernel)
set_option maxRecDepth 20000 in
theorem gX12_stay_X12_isPipe : GoodIn wsX12_stay (wsV RX12 320 RX12 yX12_isPipe wsX12_isPipe) := goodIn_app (goodIn_of _ (by decide +kernel)) ggX12_stay_X12_isPipe
set_option maxRecDepth 20000 in
theorem ggX12_stay_X12_lays : GoodIn wsX12_stay wsX12_lays := goodIn_r _ [13, 6, 14, 15, 16, 17, 18, 19, 20, 21, 22, 82, 83, 84, 85, 86, 87, 88, 89, 90, 91, 92, 93, 94, 95, 96, 97, 98, 99, 100, 101, 102, 103, 104, 105, 106, 107, 108, 109, 110, 111, 112, 113, 114, 115] (by decide +kernel) (by decide +kernel)
set_option maxRecDepth 20000 in
theorem gX12_stay_X12_lays : GoodIn wsX12_stay (wsV RX12 378 RX12 yX12_lays wsX12_lays) := goodIn_app (goodIn_of _ (by decide +kernel)) ggX12_stay_X12_lays
set_option maxRecDepth 20000 in
theorem ggX12_stay_X12_goesBy : GoodIn wsX12_stay wsX12_goesBy := goodIn_r _ [26, 14, 27, 15, 28, 29, 30, 31, 4, 32, 33, 34, 35, 36, 37, 38, 39, 40, 18, 41, 42, 43, 44, 45, 46, 47, 48, 49, 6, 50, 51, 52, 53, 54, 55, 56, 57, 58, 59, 60, 61, 62, 63, 64, 65, 66, 67, 68, 69, 70, 71, 72, 73, 74, 75, 76, 77, 78, 79, 80, 81, 82, 83, 84, 85, 86, 87, 88, 89, 90, 91, 92, 93, 94, 95, 96, 97, 98, 99, 100, 101, 102, 103, 104, 105, 106, 107, 108, 109, 110, 111, 112, 113, 114, 115] (by decide +kernel) (by decide +kernel)
set_option maxRecDepth 20000 in
theorem gX12_stay_X12_goesBy : GoodIn wsX12_stay (wsV RX12 381 RX12 yX12_goesBy wsX12_goesBy) := goodIn_app (goodIn_of _ (by decide +kernel)) ggX12_stay_X12_goesBy
theorem dX12_stay_0 : decode cX12_stay 0 = .ok (.aload_n 0, 1) := by decide +kernel
theorem dX12_stay_1 : decode cX12_stay 1 = .ok (.iload_n 1, 1) := by decide +kernel
theorem dX12_stay_2 : decode cX12_stay 2 = .ok (.invokevirtual 320, 3) := by decide +kernel
theorem dX12_stay_5 : decode cX12_stay 5 = .ok (.ifCond .ne 6, 3) := by decide +kernel
theorem dX12_stay_8 : decode cX12_stay 8 = .ok (.bipush (-2), 2) := by decide +kernel
theorem dX12_stay_10 : decode cX12_stay 10 = .ok (.ireturn, 1) := by decide +kernel
theorem dX12_stay_11 : decode cX12_stay 11 = .ok (.aload_n 0, 1) := by decide +kernel
theorem dX12_stay_12 : decode cX12_stay 12 = .ok (.iconst 0, 1) := by decide +kernel
theorem dX12_stay_13 : decode cX12_stay 13 = .ok (.invokevirtual 378, 3) := by decide +kernel
theorem dX12_stay_16 : decode cX12_stay 16 = .ok (.aload_n 0, 1) := by decide +kernel
theorem dX12_stay_17 : decode cX12_stay 17 = .ok (.iload_n 1, 1) := by decide +kernel
theorem dX12_stay_18 : decode cX12_stay 18 = .ok (.sipush 30000, 3) := by decide +kernel
theorem dX12_stay_21 : decode cX12_stay 21 = .ok (.invokevirtual 381, 3) := by decide +kernel
theorem dX12_stay_24 : decode cX12_stay 24 = .ok (.iconst (-1), 1) := by decide +kernel
theorem dX12_stay_25 : decode cX12_stay 25 = .ok (.if_icmp .eq 5, 3) := by decide +kernel
theorem dX12_stay_28 : decode cX12_stay 28 = .ok (.iconst (-1), 1) := by decide +kernel
theorem dX12_stay_29 : decode cX12_stay 29 = .ok (.ireturn, 1) := by decide +kernel
theorem dX12_stay_30 : decode cX12_stay 30 = .ok (.iconst 0, 1) := by decide +kernel
theorem dX12_stay_31 : decode cX12_stay 31 = .ok (.istore_n 2, 1) := by decide +kernel
theorem dX12_stay_32 : decode cX12_stay 32 = .ok (.sipush 30000, 3) := by decide +kernel
theorem dX12_stay_35 : decode cX12_stay 35 = .ok (.istore_n 3, 1) := by decide +kernel
theorem dX12_stay_36 : decode cX12_stay 36 = .ok (.iload_n 2, 1) := by decide +kernel
theorem dX12_stay_37 : decode cX12_stay 37 = .ok (.iload_n 3, 1) := by decide +kernel
theorem dX12_stay_38 : decode cX12_stay 38 = .ok (.if_icmp .ge 35, 3) := by decide +kernel
theorem dX12_stay_41 : decode cX12_stay 41 = .ok (.iload_n 2, 1) := by decide +kernel
theorem dX12_stay_42 : decode cX12_stay 42 = .ok (.iload_n 3, 1) := by decide +kernel
theorem dX12_stay_43 : decode cX12_stay 43 = .ok (.iadd, 1) := by decide +kernel
theorem dX12_stay_44 : decode cX12_stay 44 = .ok (.iconst 2, 1) := by decide +kernel
theorem dX12_stay_45 : decode cX12_stay 45 = .ok (.idiv, 1) := by decide +kernel
theorem dX12_stay_46 : decode cX12_stay 46 = .ok (.istore 4, 2) := by decide +kernel
theorem dX12_stay_48 : decode cX12_stay 48 = .ok (.aload_n 0, 1) := by decide +kernel
theorem dX12_stay_49 : decode cX12_stay 49 = .ok (.iload_n 1, 1) := by decide +kernel
theorem dX12_stay_50 : decode cX12_stay 50 = .ok (.iload 4, 2) := by decide +kernel
theorem dX12_stay_52 : decode cX12_stay 52 = .ok (.invokevirtual 381, 3) := by decide +kernel
theorem dX12_stay_55 : decode cX12_stay 55 = .ok (.iconst (-1), 1) := by decide +kernel
theorem dX12_stay_56 : decode cX12_stay 56 = .ok (.if_icmp .ne 9, 3) := by decide +kernel
theorem dX12_stay_59 : decode cX12_stay 59 = .ok (.iload 4, 2) := by decide +kernel
theorem dX12_stay_61 : decode cX12_stay 61 = .ok (.istore_n 3, 1) := by decide +kernel
theorem dX12_stay_62 : decode cX12_stay 62 = .ok (.goto 8, 3) := by decide +kernel
theorem dX12_stay_65 : decode cX12_stay 65 = .ok (.iload 4, 2) := by decide +kernel
theorem dX12_stay_67 : decode cX12_stay 67 = .ok (.iconst 1, 1) := by decide +kernel
theorem dX12_stay_68 : decode cX12_stay 68 = .ok (.iadd, 1) := by decide +kernel
theorem dX12_stay_69 : decode cX12_stay 69 = .ok (.istore_n 2, 1) := by decide +kernel
theorem dX12_stay_70 : decode cX12_stay 70 = .ok (.goto (-34), 3) := by decide +kernel
theorem dX12_stay_73 : decode cX12_stay 73 = .ok (.iload_n 2, 1) := by decide +kernel
theorem dX12_stay_74 : decode cX12_stay 74 = .ok (.ireturn, 1) := by decide +kernel
set_option maxRecDepth 20000 in
theorem ggX12_caps_X12_lays : GoodIn wsX12_caps wsX12_lays := goodIn_r _ [11, 12, 1, 2, 3, 4, 5, 6, 13, 14, 15, 16, 17, 18, 19, 20, 21, 22, 23, 24, 25, 26, 27, 28, 29, 30, 31, 32, 33, 34, 35, 36, 37, 38, 39, 40, 41, 42, 43, 44, 45, 46, 47, 48, 49] (by decide +kernel) (by decide +kernel)
set_option maxRecDepth 20000 in
theorem gX12_caps_X12_lays : GoodIn wsX12_caps (wsV RX12 378 RX12 yX12_lays wsX12_lays) := goodIn_app (goodIn_of _ (by decide +kernel)) ggX12_caps_X12_lays
theorem dX12_caps_0 : decode cX12_caps 0 = .ok (.aload_n 0, 1) := by decide +kernel
theorem dX12_caps_1 : decode cX12_caps 1 = .ok (.iconst 0, 1) := by decide +kernel
theorem dX12_caps_2 : decode cX12_caps 2 = .ok (.invokevirtual 378, 3) := by decide +kernel
theorem dX12_caps_5 : decode cX12_caps 5 = .ok (.iconst 0, 1) := by decide +kernel
theorem dX12_caps_6 : decode cX12_caps 6 = .ok (.istore_n 2, 1) := by decide +kernel
theorem dX12_caps_7 : decode cX12_caps 7 = .ok (.iload_n 2, 1) := by decide +kernel
theorem dX12_caps_8 : decode cX12_caps 8 = .ok (.aload_n 0, 1) := by decide +kernel
theorem dX12_caps_9 : decode cX12_caps 9 = .ok (.getfield 362, 3) := by decide +kernel
theorem dX12_caps_12 : decode cX12_caps 12 = .ok (.if_icmp .ge 25, 3) := by decide +kernel
theorem dX12_caps_15 : decode cX12_caps 15 = .ok (.aload_n 0, 1) := by decide +kernel
theorem dX12_caps_16 : decode cX12_caps 16 = .ok (.getfield 49, 3) := by decide +kernel
theorem dX12_caps_19 : decode cX12_caps 19 = .ok (.iload_n 2, 1) := by decide +kernel
theorem dX12_caps_20 : decode cX12_caps 20 = .ok (.iload_n 1, 1) := by decide +kernel
theorem dX12_caps_21 : decode cX12_caps 21 = .ok (.aload_n 0, 1) := by decide +kernel
theorem dX12_caps_22 : decode cX12_caps 22 = .ok (.getfield 49, 3) := by decide +kernel
theorem dX12_caps_25 : decode cX12_caps 25 = .ok (.iload_n 2, 1) := by decide +kernel
theorem dX12_caps_26 : decode cX12_caps 26 = .ok (.iaload, 1) := by decide +kernel
theorem dX12_caps_27 : decode cX12_caps 27 = .ok (.invokestatic 113, 3) := by decide +kernel
theorem dX12_caps_30 : decode cX12_caps 30 = .ok (.iastore, 1) := by decide +kernel
theorem dX12_caps_31 : decode cX12_caps 31 = .ok (.iinc 2 1, 3) := by decide +kernel
theorem dX12_caps_34 : decode cX12_caps 34 = .ok (.goto (-27), 3) := by decide +kernel
theorem dX12_caps_37 : decode cX12_caps 37 = .ok (.return_, 1) := by decide +kernel
set_option maxRecDepth 20000 in
theorem ggX12_cap_X12_isPipe : GoodIn wsX12_cap wsX12_isPipe := goodIn_r _ [5, 6, 7, 8, 4, 9, 86, 87, 88, 89, 90, 91, 92, 93, 94, 95, 96, 97, 98, 99, 100, 101, 102, 103, 104, 105, 106, 107, 108, 109, 110, 111, 112, 113, 114, 115, 116, 117, 118, 119] (by decide +kernel) (by decide +kernel)
set_option maxRecDepth 20000 in
theorem gX12_cap_X12_isPipe : GoodIn wsX12_cap (wsV RX12 320 RX12 yX12_isPipe wsX12_isPipe) := goodIn_app (goodIn_of _ (by decide +kernel)) ggX12_cap_X12_isPipe
set_option maxRecDepth 20000 in
theorem ggX12_cap_X12_caps : GoodIn wsX12_cap wsX12_caps := goodIn_r _ [13, 14, 15, 16, 17, 18, 19, 20, 21, 22, 4, 23, 6, 24, 25, 26, 86, 87, 88, 89, 90, 91, 92, 93, 94, 95, 96, 97, 98, 99, 100, 101, 102, 103, 104, 105, 106, 107, 108, 109, 110, 111, 112, 113, 114, 115, 116, 117, 118, 119] (by decide +kernel) (by decide +kernel)
set_option maxRecDepth 20000 in
theorem gX12_cap_X12_caps : GoodIn wsX12_cap (wsV RX12 395 RX12 yX12_caps wsX12_caps) := goodIn_app (goodIn_of _ (by decide +kernel)) ggX12_cap_X12_caps
