theorem dX12_bend_81 : decode cX12_bend 81 = .ok (.aload_n 0, 1) := by decide +kernel
theorem dX12_bend_82 : decode cX12_bend 82 = .ok (.getfield 43, 3) := by decide +kernel
theorem dX12_bend_85 : decode cX12_bend 85 = .ok (.iload_n 2, 1) := by decide +kernel
theorem dX12_bend_86 : decode cX12_bend 86 = .ok (.iaload, 1) := by decide +kernel
theorem dX12_bend_87 : decode cX12_bend 87 = .ok (.goto 9, 3) := by decide +kernel
theorem dX12_bend_90 : decode cX12_bend 90 = .ok (.aload_n 0, 1) := by decide +kernel
theorem dX12_bend_91 : decode cX12_bend 91 = .ok (.getfield 46, 3) := by decide +kernel
theorem dX12_bend_94 : decode cX12_bend 94 = .ok (.iload_n 2, 1) := by decide +kernel
theorem dX12_bend_95 : decode cX12_bend 95 = .ok (.iaload, 1) := by decide +kernel
theorem dX12_bend_96 : decode cX12_bend 96 = .ok (.ireturn, 1) := by decide +kernel
set_option maxRecDepth 20000 in
theorem ggX12_need_X12_isPipe : GoodIn wsX12_need wsX12_isPipe := goodIn_r _ [6, 7, 8, 9, 5, 10, 49, 50, 51, 52, 53, 54, 55, 56, 57, 58, 59, 60, 61, 62, 63, 64, 65, 66, 67, 68, 69, 70, 71, 72, 73, 74, 75, 76, 77, 78, 79, 80, 81, 82] (by decide +kernel) (by decide +kernel)
set_option maxRecDepth 20000 in
theorem gX12_need_X12_isPipe : GoodIn wsX12_need (wsV RX12 320 RX12 yX12_isPipe wsX12_isPipe) := goodIn_app (goodIn_of _ (by decide +kernel)) ggX12_need_X12_isPipe
set_option maxRecDepth 20000 in
theorem ggX12_need_X12_isPress : GoodIn wsX12_need wsX12_isPress := goodIn_r _ [13, 14, 8, 9, 5, 10] (by decide +kernel) (by decide +kernel)
set_option maxRecDepth 20000 in
theorem gX12_need_X12_isPress : GoodIn wsX12_need (va_wsS RX12 347 yX12_isPress wsX12_isPress) := goodIn_app (goodIn_of _ (by decide +kernel)) ggX12_need_X12_isPress
theorem dX12_need_0 : decode cX12_need 0 = .ok (.aload_n 0, 1) := by decide +kernel
theorem dX12_need_1 : decode cX12_need 1 = .ok (.iload_n 1, 1) := by decide +kernel
theorem dX12_need_2 : decode cX12_need 2 = .ok (.invokevirtual 320, 3) := by decide +kernel
theorem dX12_need_5 : decode cX12_need 5 = .ok (.ifCond .eq 19, 3) := by decide +kernel
theorem dX12_need_8 : decode cX12_need 8 = .ok (.iload_n 2, 1) := by decide +kernel
theorem dX12_need_9 : decode cX12_need 9 = .ok (.invokestatic 347, 3) := by decide +kernel
theorem dX12_need_12 : decode cX12_need 12 = .ok (.ifCond .eq 12, 3) := by decide +kernel
theorem dX12_need_15 : decode cX12_need 15 = .ok (.aload_n 0, 1) := by decide +kernel
theorem dX12_need_16 : decode cX12_need 16 = .ok (.iload_n 1, 1) := by decide +kernel
theorem dX12_need_17 : decode cX12_need 17 = .ok (.iload_n 2, 1) := by decide +kernel
theorem dX12_need_18 : decode cX12_need 18 = .ok (.invokevirtual 338, 3) := by decide +kernel
theorem dX12_need_21 : decode cX12_need 21 = .ok (.goto 6, 3) := by decide +kernel
theorem dX12_need_24 : decode cX12_need 24 = .ok (.ldc2_w 350, 3) := by decide +kernel
theorem dX12_need_27 : decode cX12_need 27 = .ok (.lreturn, 1) := by decide +kernel
set_option maxRecDepth 20000 in
theorem ggX12_load_X12_isPipe : GoodIn wsX12_load wsX12_isPipe := goodIn_r _ [5, 6, 7, 8, 4, 9, 60, 61, 62, 63, 64, 65, 66, 67, 68, 69, 70, 71, 72, 73, 74, 75, 76, 77, 78, 79, 80, 81, 82, 83, 84, 85, 86, 87, 88, 89, 90, 91, 92, 93] (by decide +kernel) (by decide +kernel)
set_option maxRecDepth 20000 in
theorem gX12_load_X12_isPipe : GoodIn wsX12_load (wsV RX12 320 RX12 yX12_isPipe wsX12_isPipe) := goodIn_app (goodIn_of _ (by decide +kernel)) ggX12_load_X12_isPipe
set_option maxRecDepth 20000 in
theorem ggX12_load_X12_isPress : GoodIn wsX12_load wsX12_isPress := goodIn_r _ [12, 13, 7, 8, 4, 9] (by decide +kernel) (by decide +kernel)
set_option maxRecDepth 20000 in
theorem gX12_load_X12_isPress : GoodIn wsX12_load (va_wsS RX12 347 yX12_isPress wsX12_isPress) := goodIn_app (goodIn_of _ (by decide +kernel)) ggX12_load_X12_isPress
theorem dX12_load_0 : decode cX12_load 0 = .ok (.aload_n 0, 1) := by decide +kernel
theorem dX12_load_1 : decode cX12_load 1 = .ok (.iload_n 1, 1) := by decide +kernel
theorem dX12_load_2 : decode cX12_load 2 = .ok (.invokevirtual 320, 3) := by decide +kernel
theorem dX12_load_5 : decode cX12_load 5 = .ok (.ifCond .eq 20, 3) := by decide +kernel
theorem dX12_load_8 : decode cX12_load 8 = .ok (.iload_n 2, 1) := by decide +kernel
theorem dX12_load_9 : decode cX12_load 9 = .ok (.invokestatic 347, 3) := by decide +kernel
theorem dX12_load_12 : decode cX12_load 12 = .ok (.ifCond .eq 13, 3) := by decide +kernel
theorem dX12_load_15 : decode cX12_load 15 = .ok (.aload_n 0, 1) := by decide +kernel
theorem dX12_load_16 : decode cX12_load 16 = .ok (.iload_n 1, 1) := by decide +kernel
theorem dX12_load_17 : decode cX12_load 17 = .ok (.iload_n 2, 1) := by decide +kernel
theorem dX12_load_18 : decode cX12_load 18 = .ok (.iconst 0, 1) := by decide +kernel
theorem dX12_load_19 : decode cX12_load 19 = .ok (.invokevirtual 352, 3) := by decide +kernel
theorem dX12_load_22 : decode cX12_load 22 = .ok (.goto 5, 3) := by decide +kernel
theorem dX12_load_25 : decode cX12_load 25 = .ok (.bipush (-2), 2) := by decide +kernel
theorem dX12_load_27 : decode cX12_load 27 = .ok (.ireturn, 1) := by decide +kernel
set_option maxRecDepth 20000 in
theorem ggX12_bows_X12_isPipe : GoodIn wsX12_bows wsX12_isPipe := goodIn_r _ [5, 6, 7, 8, 4, 9, 60, 61, 62, 63, 64, 65, 66, 67, 68, 69, 70, 71, 72, 73, 74, 75, 76, 77, 78, 79, 80, 81, 82, 83, 84, 85, 86, 87, 88, 89, 90, 91, 92, 93] (by decide +kernel) (by decide +kernel)
set_option maxRecDepth 20000 in
theorem gX12_bows_X12_isPipe : GoodIn wsX12_bows (wsV RX12 320 RX12 yX12_isPipe wsX12_isPipe) := goodIn_app (goodIn_of _ (by decide +kernel)) ggX12_bows_X12_isPipe
theorem dX12_bows_0 : decode cX12_bows 0 = .ok (.aload_n 0, 1) := by decide +kernel
theorem dX12_bows_1 : decode cX12_bows 1 = .ok (.iload_n 1, 1) := by decide +kernel
theorem dX12_bows_2 : decode cX12_bows 2 = .ok (.invokevirtual 320, 3) := by decide +kernel
theorem dX12_bows_5 : decode cX12_bows 5 = .ok (.ifCond .eq 11, 3) := by decide +kernel
theorem dX12_bows_8 : decode cX12_bows 8 = .ok (.aload_n 0, 1) := by decide +kernel
theorem dX12_bows_9 : decode cX12_bows 9 = .ok (.iload_n 1, 1) := by decide +kernel
theorem dX12_bows_10 : decode cX12_bows 10 = .ok (.invokevirtual 356, 3) := by decide +kernel
theorem dX12_bows_13 : decode cX12_bows 13 = .ok (.goto 5, 3) := by decide +kernel
theorem dX12_bows_16 : decode cX12_bows 16 = .ok (.bipush (-2), 2) := by decide +kernel
theorem dX12_bows_18 : decode cX12_bows 18 = .ok (.ireturn, 1) := by decide +kernel
set_option maxRecDepth 20000 in
theorem ggX12_press_X12_isHour : GoodIn wsX12_press wsX12_isHour := goodIn_r _ [6, 1, 7, 8, 5, 9, 10, 11, 12, 13, 14, 15, 16, 17, 18, 19, 20, 21, 22, 23, 24, 25, 26, 27, 28, 29, 30, 31, 32, 33, 34, 35, 36, 37, 38, 39, 40, 41, 42, 43] (by decide +kernel) (by decide +kernel)
set_option maxRecDepth 20000 in
theorem gX12_press_X12_isHour : GoodIn wsX12_press (wsV RX12 359 RX12 yX12_isHour wsX12_isHour) := goodIn_app (goodIn_of _ (by decide +kernel)) ggX12_press_X12_isHour
theorem dX12_press_0 : decode cX12_press 0 = .ok (.aload_n 0, 1) := by decide +kernel
theorem dX12_press_1 : decode cX12_press 1 = .ok (.iload_n 1, 1) := by decide +kernel
theorem dX12_press_2 : decode cX12_press 2 = .ok (.invokevirtual 359, 3) := by decide +kernel
theorem dX12_press_5 : decode cX12_press 5 = .ok (.ifCond .eq 16, 3) := by decide +kernel
theorem dX12_press_8 : decode cX12_press 8 = .ok (.aload_n 0, 1) := by decide +kernel
theorem dX12_press_9 : decode cX12_press 9 = .ok (.getfield 13, 3) := by decide +kernel
theorem dX12_press_12 : decode cX12_press 12 = .ok (.sipush 482, 3) := by decide +kernel
theorem dX12_press_15 : decode cX12_press 15 = .ok (.iload_n 1, 1) := by decide +kernel
theorem dX12_press_16 : decode cX12_press 16 = .ok (.iadd, 1) := by decide +kernel
theorem dX12_press_17 : decode cX12_press 17 = .ok (.iaload, 1) := by decide +kernel
theorem dX12_press_18 : decode cX12_press 18 = .ok (.goto 5, 3) := by decide +kernel
theorem dX12_press_21 : decode cX12_press 21 = .ok (.bipush (-2), 2) := by decide +kernel
theorem dX12_press_23 : decode cX12_press 23 = .ok (.ireturn, 1) := by decide +kernel
set_option maxRecDepth 20000 in
theorem ggX12_wear_X12_isPipe : GoodIn wsX12_wear wsX12_isPipe := goodIn_r _ [5, 6, 7, 8, 4, 9, 81, 82, 83, 84, 85, 86, 87, 88, 89, 90, 91, 92, 93, 94, 95, 96, 97, 98, 99, 100, 101, 102, 103, 104, 105, 106, 107, 108, 109, 110, 111, 112, 113, 114] (by decide +kernel) (by decide +kernel)
set_option maxRecDepth 20000 in
theorem gX12_wear_X12_isPipe : GoodIn wsX12_wear (wsV RX12 320 RX12 yX12_isPipe wsX12_isPipe) := goodIn_app (goodIn_of _ (by decide +kernel)) ggX12_wear_X12_isPipe
set_option maxRecDepth 20000 in
theorem ggX12_wear_X12_isHour : GoodIn wsX12_wear wsX12_isHour := goodIn_r _ [13, 6, 7, 8, 4, 9, 81, 82, 83, 84, 85, 86, 87, 88, 89, 90, 91, 92, 93, 94, 95, 96, 97, 98, 99, 100, 101, 102, 103, 104, 105, 106, 107, 108, 109, 110, 111, 112, 113, 114] (by decide +kernel) (by decide +kernel)
set_option maxRecDepth 20000 in
theorem gX12_wear_X12_isHour : GoodIn wsX12_wear (wsV RX12 359 RX12 yX12_isHour wsX12_isHour) := goodIn_app (goodIn_of _ (by decide +kernel)) ggX12_wear_X12_isHour
theorem dX12_wear_0 : decode cX12_wear 0 = .ok (.aload_n 0, 1) := by decide +kernel
theorem dX12_wear_1 : decode cX12_wear 1 = .ok (.iload_n 1, 1) := by decide +kernel
theorem dX12_wear_2 : decode cX12_wear 2 = .ok (.invokevirtual 320, 3) := by decide +kernel
theorem dX12_wear_5 : decode cX12_wear 5 = .ok (.ifCond .eq 11, 3) := by decide +kernel
theorem dX12_wear_8 : decode cX12_wear 8 = .ok (.aload_n 0, 1) := by decide +kernel
theorem dX12_wear_9 : decode cX12_wear 9 = .ok (.iload_n 2, 1) := by decide +kernel
theorem dX12_wear_10 : decode cX12_wear 10 = .ok (.invokevirtual 359, 3) := by decide +kernel
theorem dX12_wear_13 : decode cX12_wear 13 = .ok (.ifCond .ne 6, 3) := by decide +kernel
theorem dX12_wear_16 : decode cX12_wear 16 = .ok (.bipush (-2), 2) := by decide +kernel
theorem dX12_wear_18 : decode cX12_wear 18 = .ok (.ireturn, 1) := by decide +kernel
theorem dX12_wear_19 : decode cX12_wear 19 = .ok (.aload_n 0, 1) := by decide +kernel
theorem dX12_wear_20 : decode cX12_wear 20 = .ok (.iconst 0, 1) := by decide +kernel
theorem dX12_wear_21 : decode cX12_wear 21 = .ok (.invokevirtual 378, 3) := by decide +kernel
theorem dX12_wear_24 : decode cX12_wear 24 = .ok (.aload_n 0, 1) := by decide +kernel
theorem dX12_wear_25 : decode cX12_wear 25 = .ok (.iload_n 1, 1) := by decide +kernel
theorem dX12_wear_26 : decode cX12_wear 26 = .ok (.iconst 0, 1) := by decide +kernel
theorem dX12_wear_27 : decode cX12_wear 27 = .ok (.invokevirtual 368, 3) := by decide +kernel
theorem dX12_wear_30 : decode cX12_wear 30 = .ok (.iconst 0, 1) := by decide +kernel
theorem dX12_wear_31 : decode cX12_wear 31 = .ok (.istore_n 3, 1) := by decide +kernel
theorem dX12_wear_32 : decode cX12_wear 32 = .ok (.iconst 0, 1) := by decide +kernel
theorem dX12_wear_33 : decode cX12_wear 33 = .ok (.istore 4, 2) := by decide +kernel
theorem dX12_wear_35 : decode cX12_wear 35 = .ok (.iload 4, 2) := by decide +kernel
theorem dX12_wear_37 : decode cX12_wear 37 = .ok (.iload_n 2, 1) := by decide +kernel
theorem dX12_wear_38 : decode cX12_wear 38 = .ok (.if_icmp .gt 18, 3) := by decide +kernel
theorem dX12_wear_41 : decode cX12_wear 41 = .ok (.iload_n 3, 1) := by decide +kernel
theorem dX12_wear_42 : decode cX12_wear 42 = .ok (.aload_n 0, 1) := by decide +kernel
theorem dX12_wear_43 : decode cX12_wear 43 = .ok (.iload 4, 2) := by decide +kernel
theorem dX12_wear_45 : decode cX12_wear 45 = .ok (.invokevirtual 372, 3) := by decide +kernel
theorem dX12_wear_48 : decode cX12_wear 48 = .ok (.iadd, 1) := by decide +kernel
theorem dX12_wear_49 : decode cX12_wear 49 = .ok (.istore_n 3, 1) := by decide +kernel
theorem dX12_wear_50 : decode cX12_wear 50 = .ok (.iinc 4 1, 3) := by decide +kernel
theorem dX12_wear_53 : decode cX12_wear 53 = .ok (.goto (-18), 3) := by decide +kernel
theorem dX12_wear_56 : decode cX12_wear 56 = .ok (.iload_n 3, 1) := by decide +kernel
theorem dX12_wear_57 : decode cX12_wear 57 = .ok (.ireturn, 1) := by decide +kernel
set_option maxRecDepth 20000 in
theorem ggX12_goes_X12_isPipe : GoodIn wsX12_goes wsX12_isPipe := goodIn_r _ [5, 6, 7, 8, 4, 9, 86, 87, 88, 89, 90, 91, 92, 93, 94, 95, 96, 97, 98, 99, 100, 101, 102, 103, 104, 105, 106, 107, 108, 109, 110, 111, 112, 113, 114, 115, 116, 117, 118, 119] (by decide +kernel) (by decide +kernel)
set_option maxRecDepth 20000 in
theorem gX12_goes_X12_isPipe : GoodIn wsX12_goes (wsV RX12 320 RX12 yX12_isPipe wsX12_isPipe) := goodIn_app (goodIn_of _ (by decide +kernel)) ggX12_goes_X12_isPipe
theorem dX12_goes_0 : decode cX12_goes 0 = .ok (.aload_n 0, 1) := by decide +kernel
theorem dX12_goes_1 : decode cX12_goes 1 = .ok (.iload_n 1, 1) := by decide +kernel
theorem dX12_goes_2 : decode cX12_goes 2 = .ok (.invokevirtual 320, 3) := by decide +kernel
theorem dX12_goes_5 : decode cX12_goes 5 = .ok (.ifCond .eq 11, 3) := by decide +kernel
theorem dX12_goes_8 : decode cX12_goes 8 = .ok (.aload_n 0, 1) := by decide +kernel
theorem dX12_goes_9 : decode cX12_goes 9 = .ok (.iload_n 1, 1) := by decide +kernel
theorem dX12_goes_10 : decode cX12_goes 10 = .ok (.invokevirtual 384, 3) := by decide +kernel
theorem dX12_goes_13 : decode cX12_goes 13 = .ok (.goto 5, 3) := by decide +kernel
theorem dX12_goes_16 : decode cX12_goes 16 = .ok (.bipush (-2), 2) := by decide +kernel
theorem dX12_goes_18 : decode cX12_goes 18 = .ok (.ireturn, 1) := by decide +kernel
set_option maxRecDepth 20000 in
theorem ggX12_why_X12_isPipe : GoodIn wsX12_why wsX12_isPipe := goodIn_r _ [6, 7, 8, 9, 5, 10, 86, 87, 88, 89, 90, 91, 92, 93, 94, 95, 96, 97, 98, 99, 100, 101, 102, 103, 104, 105, 106, 107, 108, 109, 110, 111, 112, 113, 114, 115, 116, 117, 118, 119] (by decide +kernel) (by decide +kernel)
set_option maxRecDepth 20000 in
theorem gX12_why_X12_isPipe : GoodIn wsX12_why (wsV RX12 320 RX12 yX12_isPipe wsX12_isPipe) := goodIn_app (goodIn_of _ (by decide +kernel)) ggX12_why_X12_isPipe
theorem dX12_why_0 : decode cX12_why 0 = .ok (.aload_n 0, 1) := by decide +kernel
theorem dX12_why_1 : decode cX12_why 1 = .ok (.iload_n 1, 1) := by decide +kernel
theorem dX12_why_2 : decode cX12_why 2 = .ok (.invokevirtual 320, 3) := by decide +kernel
theorem dX12_why_5 : decode cX12_why 5 = .ok (.ifCond .ne 6, 3) := by decide +kernel
theorem dX12_why_8 : decode cX12_why 8 = .ok (.bipush (-2), 2) := by decide +kernel
theorem dX12_why_10 : decode cX12_why 10 = .ok (.ireturn, 1) := by decide +kernel
theorem dX12_why_11 : decode cX12_why 11 = .ok (.aload_n 0, 1) := by decide +kernel
theorem dX12_why_12 : decode cX12_why 12 = .ok (.iload_n 1, 1) := by decide +kernel
theorem dX12_why_13 : decode cX12_why 13 = .ok (.invokevirtual 384, 3) := by decide +kernel
theorem dX12_why_16 : decode cX12_why 16 = .ok (.iconst (-1), 1) := by decide +kernel
theorem dX12_why_17 : decode cX12_why 17 = .ok (.if_icmp .ne 7, 3) := by decide +kernel
theorem dX12_why_20 : decode cX12_why 20 = .ok (.iconst (-1), 1) := by decide +kernel
theorem dX12_why_21 : decode cX12_why 21 = .ok (.goto 7, 3) := by decide +kernel
theorem dX12_why_24 : decode cX12_why 24 = .ok (.aload_n 0, 1) := by decide +kernel
theorem dX12_why_25 : decode cX12_why 25 = .ok (.getfield 375, 3) := by decide +kernel
theorem dX12_why_28 : decode cX12_why 28 = .ok (.ireturn, 1) := by decide +kernel
set_option maxRecDepth 20000 in
theorem ggX12_bursts_X12_isPot : GoodIn wsX12_bursts wsX12_isPot := goodIn_r _ [5, 6, 7, 8, 4, 9, 14, 15, 16, 17, 18, 19, 20, 21, 22, 23, 24, 25, 26, 27, 28, 29, 30, 31, 32, 33, 34, 35, 36, 37, 38, 39, 40, 41, 42, 43, 44, 45, 46, 47] (by decide +kernel) (by decide +kernel)
set_option maxRecDepth 20000 in
theorem gX12_bursts_X12_isPot : GoodIn wsX12_bursts (wsV RX12 299 RX12 yX12_isPot wsX12_isPot) := goodIn_app (goodIn_of _ (by decide +kernel)) ggX12_bursts_X12_isPot
theorem dX12_bursts_0 : decode cX12_bursts 0 = .ok (.aload_n 0, 1) := by decide +kernel
theorem dX12_bursts_1 : decode cX12_bursts 1 = .ok (.iload_n 1, 1) := by decide +kernel
theorem dX12_bursts_2 : decode cX12_bursts 2 = .ok (.invokevirtual 299, 3) := by decide +kernel
theorem dX12_bursts_5 : decode cX12_bursts 5 = .ok (.ifCond .eq 11, 3) := by decide +kernel
theorem dX12_bursts_8 : decode cX12_bursts 8 = .ok (.aload_n 0, 1) := by decide +kernel
theorem dX12_bursts_9 : decode cX12_bursts 9 = .ok (.iload_n 1, 1) := by decide +kernel
theorem dX12_bursts_10 : decode cX12_bursts 10 = .ok (.invokevirtual 387, 3) := by decide +kernel
theorem dX12_bursts_13 : decode cX12_bursts 13 = .ok (.goto 5, 3) := by decide +kernel
theorem dX12_bursts_16 : decode cX12_bursts 16 = .ok (.bipush (-2), 2) := by decide +kernel
theorem dX12_bursts_18 : decode cX12_bursts 18 = .ok (.ireturn, 1) := by decide +kernel
theorem dX12_firstBut_0 : decode cX12_firstBut 0 = .ok (.iconst (-1), 1) := by decide +kernel
theorem dX12_firstBut_1 : decode cX12_firstBut 1 = .ok (.istore_n 3, 1) := by decide +kernel
theorem dX12_firstBut_2 : decode cX12_firstBut 2 = .ok (.iconst (-1), 1) := by decide +kernel
theorem dX12_firstBut_3 : decode cX12_firstBut 3 = .ok (.istore 4, 2) := by decide +kernel
theorem dX12_firstBut_5 : decode cX12_firstBut 5 = .ok (.iconst 0, 1) := by decide +kernel
theorem dX12_firstBut_6 : decode cX12_firstBut 6 = .ok (.istore 5, 2) := by decide +kernel
theorem dX12_firstBut_8 : decode cX12_firstBut 8 = .ok (.iload 5, 2) := by decide +kernel
theorem dX12_firstBut_10 : decode cX12_firstBut 10 = .ok (.aload_n 0, 1) := by decide +kernel
theorem dX12_firstBut_11 : decode cX12_firstBut 11 = .ok (.getfield 13, 3) := by decide +kernel
theorem dX12_firstBut_14 : decode cX12_firstBut 14 = .ok (.iconst 2, 1) := by decide +kernel
theorem dX12_firstBut_15 : decode cX12_firstBut 15 = .ok (.iaload, 1) := by decide +kernel
theorem dX12_firstBut_16 : decode cX12_firstBut 16 = .ok (.if_icmp .ge 52, 3) := by decide +kernel
theorem dX12_firstBut_19 : decode cX12_firstBut 19 = .ok (.aload_n 0, 1) := by decide +kernel
theorem dX12_firstBut_20 : decode cX12_firstBut 20 = .ok (.iload 5, 2) := by decide +kernel
theorem dX12_firstBut_22 : decode cX12_firstBut 22 = .ok (.invokevirtual 384, 3) := by decide +kernel
theorem dX12_firstBut_25 : decode cX12_firstBut 25 = .ok (.istore 6, 2) := by decide +kernel
theorem dX12_firstBut_27 : decode cX12_firstBut 27 = .ok (.iload 5, 2) := by decide +kernel
theorem dX12_firstBut_29 : decode cX12_firstBut 29 = .ok (.iload_n 1, 1) := by decide +kernel
theorem dX12_firstBut_30 : decode cX12_firstBut 30 = .ok (.if_icmp .eq 32, 3) := by decide +kernel
theorem dX12_firstBut_33 : decode cX12_firstBut 33 = .ok (.iload 6, 2) := by decide +kernel
theorem dX12_firstBut_35 : decode cX12_firstBut 35 = .ok (.iconst (-1), 1) := by decide +kernel
theorem dX12_firstBut_36 : decode cX12_firstBut 36 = .ok (.if_icmp .eq 26, 3) := by decide +kernel
theorem dX12_firstBut_39 : decode cX12_firstBut 39 = .ok (.iload 4, 2) := by decide +kernel
theorem dX12_firstBut_41 : decode cX12_firstBut 41 = .ok (.iconst (-1), 1) := by decide +kernel
theorem dX12_firstBut_42 : decode cX12_firstBut 42 = .ok (.if_icmp .eq 13, 3) := by decide +kernel
theorem dX12_firstBut_45 : decode cX12_firstBut 45 = .ok (.iload 6, 2) := by decide +kernel
theorem dX12_firstBut_47 : decode cX12_firstBut 47 = .ok (.iload 4, 2) := by decide +kernel
theorem dX12_firstBut_49 : decode cX12_firstBut 49 = .ok (.if_icmp .lt 6, 3) := by decide +kernel
theorem dX12_firstBut_52 : decode cX12_firstBut 52 = .ok (.goto 10, 3) := by decide +kernel
theorem dX12_firstBut_55 : decode cX12_firstBut 55 = .ok (.iload 5, 2) := by decide +kernel
theorem dX12_firstBut_57 : decode cX12_firstBut 57 = .ok (.istore_n 3, 1) := by decide +kernel
theorem dX12_firstBut_58 : decode cX12_firstBut 58 = .ok (.iload 6, 2) := by decide +kernel
theorem dX12_firstBut_60 : decode cX12_firstBut 60 = .ok (.istore 4, 2) := by decide +kernel
theorem dX12_firstBut_62 : decode cX12_firstBut 62 = .ok (.iinc 5 1, 3) := by decide +kernel
theorem dX12_firstBut_65 : decode cX12_firstBut 65 = .ok (.goto (-57), 3) := by decide +kernel
theorem dX12_firstBut_68 : decode cX12_firstBut 68 = .ok (.iconst 0, 1) := by decide +kernel
theorem dX12_firstBut_69 : decode cX12_firstBut 69 = .ok (.istore 5, 2) := by decide +kernel
theorem dX12_firstBut_71 : decode cX12_firstBut 71 = .ok (.iload 5, 2) := by decide +kernel
theorem dX12_firstBut_73 : decode cX12_firstBut 73 = .ok (.aload_n 0, 1) := by decide +kernel
theorem dX12_firstBut_74 : decode cX12_firstBut 74 = .ok (.getfield 13, 3) := by decide +kernel
theorem dX12_firstBut_77 : decode cX12_firstBut 77 = .ok (.iconst 1, 1) := by decide +kernel
theorem dX12_firstBut_78 : decode cX12_firstBut 78 = .ok (.iaload, 1) := by decide +kernel
theorem dX12_firstBut_79 : decode cX12_firstBut 79 = .ok (.if_icmp .ge 58, 3) := by decide +kernel
theorem dX12_firstBut_82 : decode cX12_firstBut 82 = .ok (.aload_n 0, 1) := by decide +kernel
theorem dX12_firstBut_83 : decode cX12_firstBut 83 = .ok (.iload 5, 2) := by decide +kernel
theorem dX12_firstBut_85 : decode cX12_firstBut 85 = .ok (.invokevirtual 387, 3) := by decide +kernel
theorem dX12_firstBut_88 : decode cX12_firstBut 88 = .ok (.istore 6, 2) := by decide +kernel
theorem dX12_firstBut_90 : decode cX12_firstBut 90 = .ok (.bipush 100, 2) := by decide +kernel
theorem dX12_firstBut_92 : decode cX12_firstBut 92 = .ok (.iload 5, 2) := by decide +kernel
theorem dX12_firstBut_94 : decode cX12_firstBut 94 = .ok (.iadd, 1) := by decide +kernel
theorem dX12_firstBut_95 : decode cX12_firstBut 95 = .ok (.iload_n 1, 1) := by decide +kernel
theorem dX12_firstBut_96 : decode cX12_firstBut 96 = .ok (.if_icmp .eq 35, 3) := by decide +kernel
theorem dX12_firstBut_99 : decode cX12_firstBut 99 = .ok (.iload 6, 2) := by decide +kernel
theorem dX12_firstBut_101 : decode cX12_firstBut 101 = .ok (.iconst (-1), 1) := by decide +kernel
theorem dX12_firstBut_102 : decode cX12_firstBut 102 = .ok (.if_icmp .eq 29, 3) := by decide +kernel
theorem dX12_firstBut_105 : decode cX12_firstBut 105 = .ok (.iload 4, 2) := by decide +kernel
theorem dX12_firstBut_107 : decode cX12_firstBut 107 = .ok (.iconst (-1), 1) := by decide +kernel
theorem dX12_firstBut_108 : decode cX12_firstBut 108 = .ok (.if_icmp .eq 13, 3) := by decide +kernel
theorem dX12_firstBut_111 : decode cX12_firstBut 111 = .ok (.iload 6, 2) := by decide +kernel
theorem dX12_firstBut_113 : decode cX12_firstBut 113 = .ok (.iload 4, 2) := by decide +kernel
theorem dX12_firstBut_115 : decode cX12_firstBut 115 = .ok (.if_icmp .lt 6, 3) := by decide +kernel
theorem dX12_firstBut_118 : decode cX12_firstBut 118 = .ok (.goto 13, 3) := by decide +kernel
theorem dX12_firstBut_121 : decode cX12_firstBut 121 = .ok (.bipush 100, 2) := by decide +kernel
theorem dX12_firstBut_123 : decode cX12_firstBut 123 = .ok (.iload 5, 2) := by decide +kernel
theorem dX12_firstBut_125 : decode cX12_firstBut 125 = .ok (.iadd, 1) := by decide +kernel
theorem dX12_firstBut_126 : decode cX12_firstBut 126 = .ok (.istore_n 3, 1) := by decide +kernel
theorem dX12_firstBut_127 : decode cX12_firstBut 127 = .ok (.iload 6, 2) := by decide +kernel
theorem dX12_firstBut_129 : decode cX12_firstBut 129 = .ok (.istore 4, 2) := by decide +kernel
theorem dX12_firstBut_131 : decode cX12_firstBut 131 = .ok (.iinc 5 1, 3) := by decide +kernel
theorem dX12_firstBut_134 : decode cX12_firstBut 134 = .ok (.goto (-63), 3) := by decide +kernel
theorem dX12_firstBut_137 : decode cX12_firstBut 137 = .ok (.iload_n 2, 1) := by decide +kernel
theorem dX12_firstBut_138 : decode cX12_firstBut 138 = .ok (.ifCond .ne 7, 3) := by decide +kernel
theorem dX12_firstBut_141 : decode cX12_firstBut 141 = .ok (.iload_n 3, 1) := by decide +kernel
theorem dX12_firstBut_142 : decode cX12_firstBut 142 = .ok (.goto 14, 3) := by decide +kernel
theorem dX12_firstBut_145 : decode cX12_firstBut 145 = .ok (.iload_n 2, 1) := by decide +kernel
theorem dX12_firstBut_146 : decode cX12_firstBut 146 = .ok (.iconst 1, 1) := by decide +kernel
theorem dX12_firstBut_147 : decode cX12_firstBut 147 = .ok (.if_icmp .ne 8, 3) := by decide +kernel
theorem dX12_firstBut_150 : decode cX12_firstBut 150 = .ok (.iload 4, 2) := by decide +kernel
theorem dX12_firstBut_152 : decode cX12_firstBut 152 = .ok (.goto 4, 3) := by decide +kernel
theorem dX12_firstBut_155 : decode cX12_firstBut 155 = .ok (.iconst (-1), 1) := by decide +kernel
theorem dX12_firstBut_156 : decode cX12_firstBut 156 = .ok (.ireturn, 1) := by decide +kernel
set_option maxRecDepth 20000 in
theorem ggX12_first_X12_firstBut : GoodIn wsX12_first wsX12_firstBut := goodIn_r _ [5, 6, 7, 8, 9, 4, 10, 11, 12, 13, 14, 15, 16, 17, 18, 19, 20, 21, 22, 23, 24, 25, 26, 27, 28, 29, 30, 31, 32, 33, 34, 35, 36, 37, 38, 39, 40, 41, 42, 43, 44, 45, 46, 47, 48, 49, 50, 51, 52, 53, 54, 55, 56, 57, 58, 59, 60, 61, 62, 63, 64, 65, 66, 67, 68, 69, 70, 71, 72, 73, 74, 75, 76, 77, 78, 79, 80, 81, 82, 83, 84, 85, 86, 87, 88, 89, 90, 91, 92, 93, 94, 95, 96, 97, 98, 99, 100, 101, 102, 103, 104, 105, 106, 107, 108, 109, 110, 111, 112, 113, 114, 115, 116, 117, 118, 119, 120] (by decide +kernel) (by decide +kernel)
set_option maxRecDepth 20000 in
theorem gX12_first_X12_firstBut : GoodIn wsX12_first (wsV RX12 390 RX12 yX12_firstBut wsX12_firstBut) := goodIn_app (goodIn_of _ (by decide +kernel)) ggX12_first_X12_firstBut
theorem dX12_first_0 : decode cX12_first 0 = .ok (.aload_n 0, 1) := by decide +kernel
theorem dX12_first_1 : decode cX12_first 1 = .ok (.iconst (-1), 1) := by decide +kernel
theorem dX12_first_2 : decode cX12_first 2 = .ok (.iload_n 1, 1) := by decide +kernel
theorem dX12_first_3 : decode cX12_first 3 = .ok (.invokevirtual 390, 3) := by decide +kernel
theorem dX12_first_6 : decode cX12_first 6 = .ok (.ireturn, 1) := by decide +kernel
set_option maxRecDepth 20000 in
theorem ggX12_next_X12_isPipe : GoodIn wsX12_next wsX12_isPipe := goodIn_r _ [5, 6, 7, 8, 4, 9, 98, 99, 100, 101, 102, 103, 104, 105, 106, 107, 108, 109, 110, 111, 112, 113, 114, 115, 116, 117, 118, 119, 120, 121, 122, 123, 124, 125, 126, 127, 128, 129, 130, 131] (by decide +kernel) (by decide +kernel)
set_option maxRecDepth 20000 in
theorem gX12_next_X12_isPipe : GoodIn wsX12_next (wsV RX12 320 RX12 yX12_isPipe wsX12_isPipe) := goodIn_app (goodIn_of _ (by decide +kernel)) ggX12_next_X12_isPipe
set_option maxRecDepth 20000 in
theorem ggX12_next_X12_isPot : GoodIn wsX12_next wsX12_isPot := goodIn_r _ [13, 6, 7, 8, 4, 9, 98, 99, 100, 101, 102, 103, 104, 105, 106, 107, 108, 109, 110, 111, 112, 113, 114, 115, 116, 117, 118, 119, 120, 121, 122, 123, 124, 125, 126, 127, 128, 129, 130, 131] (by decide +kernel) (by decide +kernel)
set_option maxRecDepth 20000 in
theorem gX12_next_X12_isPot : GoodIn wsX12_next (wsV RX12 299 RX12 yX12_isPot wsX12_isPot) := goodIn_app (goodIn_of _ (by decide +kernel)) ggX12_next_X12_isPot
set_option maxRecDepth 20000 in
theorem ggX12_next_X12_firstBut : GoodIn wsX12_next wsX12_firstBut := goodIn_r _ [17, 6, 18, 19, 20, 4, 21, 22, 23, 24, 25, 26, 27, 28, 29, 30, 31, 32, 33, 34, 35, 36, 37, 38, 39, 40, 41, 42, 43, 44, 45, 46, 47, 48, 49, 50, 51, 52, 53, 54, 55, 56, 57, 58, 59, 60, 61, 62, 63, 64, 65, 66, 67, 68, 69, 70, 71, 72, 73, 74, 75, 76, 77, 78, 79, 80, 81, 82, 83, 84, 85, 86, 87, 88, 89, 90, 91, 92, 93, 94, 95, 96, 97, 98, 99, 100, 101, 102, 103, 104, 105, 106, 107, 108, 109, 110, 111, 112, 113, 114, 115, 116, 117, 118, 119, 120, 121, 122, 123, 124, 125, 126, 127, 128, 129, 130, 131] (by decide +kernel) (by decide +kernel)
set_option maxRecDepth 20000 in
theorem gX12_next_X12_firstBut : GoodIn wsX12_next (wsV RX12 390 RX12 yX12_firstBut wsX12_firstBut) := goodIn_app (goodIn_of _ (by decide +kernel)) ggX12_next_X12_firstBut
theorem dX12_next_0 : decode cX12_next 0 = .ok (.aload_n 0, 1) := by decide +kernel
theorem dX12_next_1 : decode cX12_next 1 = .ok (.iload_n 1, 1) := by decide +kernel
theorem dX12_next_2 : decode cX12_next 2 = .ok (.invokevirtual 320, 3) := by decide +kernel
theorem dX12_next_5 : decode cX12_next 5 = .ok (.ifCond .ne 23, 3) := by decide +kernel
theorem dX12_next_8 : decode cX12_next 8 = .ok (.iload_n 1, 1) := by decide +kernel
theorem dX12_next_9 : decode cX12_next 9 = .ok (.bipush 100, 2) := by decide +kernel
theorem dX12_next_11 : decode cX12_next 11 = .ok (.if_icmp .lt 14, 3) := by decide +kernel
theorem dX12_next_14 : decode cX12_next 14 = .ok (.aload_n 0, 1) := by decide +kernel
theorem dX12_next_15 : decode cX12_next 15 = .ok (.iload_n 1, 1) := by decide +kernel
theorem dX12_next_16 : decode cX12_next 16 = .ok (.bipush 100, 2) := by decide +kernel
theorem dX12_next_18 : decode cX12_next 18 = .ok (.isub, 1) := by decide +kernel
theorem dX12_next_19 : decode cX12_next 19 = .ok (.invokevirtual 299, 3) := by decide +kernel
theorem dX12_next_22 : decode cX12_next 22 = .ok (.ifCond .ne 6, 3) := by decide +kernel
theorem dX12_next_25 : decode cX12_next 25 = .ok (.bipush (-2), 2) := by decide +kernel
theorem dX12_next_27 : decode cX12_next 27 = .ok (.ireturn, 1) := by decide +kernel
theorem dX12_next_28 : decode cX12_next 28 = .ok (.aload_n 0, 1) := by decide +kernel
theorem dX12_next_29 : decode cX12_next 29 = .ok (.iload_n 1, 1) := by decide +kernel
theorem dX12_next_30 : decode cX12_next 30 = .ok (.iload_n 2, 1) := by decide +kernel
theorem dX12_next_31 : decode cX12_next 31 = .ok (.invokevirtual 390, 3) := by decide +kernel
theorem dX12_next_34 : decode cX12_next 34 = .ok (.ireturn, 1) := by decide +kernel
set_option maxRecDepth 20000 in
theorem ggX12_under_X12_isPipe : GoodIn wsX12_under wsX12_isPipe := goodIn_r _ [7, 8, 9, 10, 6, 11, 84, 85, 86, 87, 88, 89, 90, 91, 92, 93, 94, 95, 96, 97, 98, 99, 100, 101, 102, 103, 104, 105, 106, 107, 108, 109, 110, 111, 112, 113, 114, 115, 116, 117] (by decide +kernel) (by decide +kernel)
set_option maxRecDepth 20000 in
theorem gX12_under_X12_isPipe : GoodIn wsX12_under (wsV RX12 320 RX12 yX12_isPipe wsX12_isPipe) := goodIn_app (goodIn_of _ (by decide +kernel)) ggX12_under_X12_isPipe
set_option maxRecDepth 20000 in
theorem ggX12_under_X12_in : GoodIn wsX12_under wsX12_in := goodIn_r _ [11] (by decide +kernel) (by decide +kernel)
set_option maxRecDepth 20000 in
theorem gX12_under_X12_in : GoodIn wsX12_under (va_wsS RX12 76 yX12_in wsX12_in) := goodIn_app (goodIn_of _ (by decide +kernel)) ggX12_under_X12_in
theorem dX12_under_0 : decode cX12_under 0 = .ok (.aload_n 0, 1) := by decide +kernel
theorem dX12_under_1 : decode cX12_under 1 = .ok (.iload_n 1, 1) := by decide +kernel
theorem dX12_under_2 : decode cX12_under 2 = .ok (.invokevirtual 320, 3) := by decide +kernel
theorem dX12_under_5 : decode cX12_under 5 = .ok (.ifCond .eq 17, 3) := by decide +kernel
theorem dX12_under_8 : decode cX12_under 8 = .ok (.iload_n 2, 1) := by decide +kernel
theorem dX12_under_9 : decode cX12_under 9 = .ok (.i2l, 1) := by decide +kernel
theorem dX12_under_10 : decode cX12_under 10 = .ok (.ldc2_w 393, 3) := by decide +kernel
theorem dX12_under_13 : decode cX12_under 13 = .ok (.ldc2_w 80, 3) := by decide +kernel
theorem dX12_under_16 : decode cX12_under 16 = .ok (.invokestatic 76, 3) := by decide +kernel
theorem dX12_under_19 : decode cX12_under 19 = .ok (.ifCond .ne 6, 3) := by decide +kernel
theorem dX12_under_22 : decode cX12_under 22 = .ok (.bipush (-2), 2) := by decide +kernel
theorem dX12_under_24 : decode cX12_under 24 = .ok (.ireturn, 1) := by decide +kernel
theorem dX12_under_25 : decode cX12_under 25 = .ok (.aload_n 0, 1) := by decide +kernel
theorem dX12_under_26 : decode cX12_under 26 = .ok (.iload_n 2, 1) := by decide +kernel
theorem dX12_under_27 : decode cX12_under 27 = .ok (.invokevirtual 378, 3) := by decide +kernel
theorem dX12_under_30 : decode cX12_under 30 = .ok (.aload_n 0, 1) := by decide +kernel
theorem dX12_under_31 : decode cX12_under 31 = .ok (.iload_n 1, 1) := by decide +kernel
theorem dX12_under_32 : decode cX12_under 32 = .ok (.iconst 0, 1) := by decide +kernel
theorem dX12_under_33 : decode cX12_under 33 = .ok (.invokevirtual 381, 3) := by decide +kernel
theorem dX12_under_36 : decode cX12_under 36 = .ok (.ireturn, 1) := by decide +kernel
set_option maxRecDepth 20000 in
theorem ggX12_stay_X12_isPipe : GoodIn wsX12_stay wsX12_isPipe := goodIn_r _ [5, 6, 7, 8, 4, 9, 82, 83, 84, 85, 86, 87, 88, 89, 90, 91, 92, 93, 94, 95, 96, 97, 98, 99, 100, 101, 102, 103, 104, 105, 106, 107, 108, 109, 110, 111, 112, 113, 114, 115] (by decide +kernel) (by decide +kernel)
set_option maxRecDepth 20000 in
theorem gX12_stay_X12_isPipe : GoodIn wsX12_stay (wsV RX12 320 RX12 yX12_isPipe wsX12_isPipe) := goodIn_app (goodIn_of _ (by decide +kernel)) ggX12_stay_X12_isPipe
theorem dX12_stay_0 : decode cX12_stay 0 = .ok (.aload_n 0, 1) := by decide +kernel
theorem dX12_stay_1 : decode cX12_stay 1 = .ok (.iload_n 1, 1) := by decide +kernel
theorem dX12_stay_2 : decode cX12_stay 2 = .ok (.invokevirtual 320, 3) := by decide +kernel
theorem dX12_stay_5 : decode cX12_stay 5 = .ok (.ifCond .ne 6, 3) := by decide +kernel
theorem dX12_stay_8 : decode cX12_stay 8 = .ok (.bipush (-2), 2) := by decide +kernel
theorem dX12_stay_10 : decode cX12_stay 10 = .ok (.ireturn, 1) := by decide +kernel
theorem dX12_stay_11 : decode cX12_stay 11 = .ok (.aload_n 0, 1) := by decide +kernel
theorem dX12_stay_12 : decode cX12_stay 12 = .ok (.iconst 0, 1) := by decide +kernel
theorem dX12_stay_13 : decode cX12_stay 13 = .ok (.invokevirtual 378, 3) := by decide +kernel
theorem dX12_stay_16 : decode cX12_stay 16 = .ok (.aload_n 0, 1) := by decide +kernel
theorem dX12_stay_17 : decode cX12_stay 17 = .ok (.iload_n 1, 1) := by decide +kernel
theorem dX12_stay_18 : decode cX12_stay 18 = .ok (.sipush 30000, 3) := by decide +kernel
theorem dX12_stay_21 : decode cX12_stay 21 = .ok (.invokevirtual 381, 3) := by decide +kernel
theorem dX12_stay_24 : decode cX12_stay 24 = .ok (.iconst (-1), 1) := by decide +kernel
theorem dX12_stay_25 : decode cX12_stay 25 = .ok (.if_icmp .eq 5, 3) := by decide +kernel
theorem dX12_stay_28 : decode cX12_stay 28 = .ok (.iconst (-1), 1) := by decide +kernel
theorem dX12_stay_29 : decode cX12_stay 29 = .ok (.ireturn, 1) := by decide +kernel
theorem dX12_stay_30 : decode cX12_stay 30 = .ok (.iconst 0, 1) := by decide +kernel
theorem dX12_stay_31 : decode cX12_stay 31 = .ok (.istore_n 2, 1) := by decide +kernel
theorem dX12_stay_32 : decode cX12_stay 32 = .ok (.sipush 30000, 3) := by decide +kernel
theorem dX12_stay_35 : decode cX12_stay 35 = .ok (.istore_n 3, 1) := by decide +kernel
theorem dX12_stay_36 : decode cX12_stay 36 = .ok (.iload_n 2, 1) := by decide +kernel
theorem dX12_stay_37 : decode cX12_stay 37 = .ok (.iload_n 3, 1) := by decide +kernel
theorem dX12_stay_38 : decode cX12_stay 38 = .ok (.if_icmp .ge 35, 3) := by decide +kernel
theorem dX12_stay_41 : decode cX12_stay 41 = .ok (.iload_n 2, 1) := by decide +kernel
theorem dX12_stay_42 : decode cX12_stay 42 = .ok (.iload_n 3, 1) := by decide +kernel
theorem dX12_stay_43 : decode cX12_stay 43 = .ok (.iadd, 1) := by decide +kernel
theorem dX12_stay_44 : decode cX12_stay 44 = .ok (.iconst 2, 1) := by decide +kernel
theorem dX12_stay_45 : decode cX12_stay 45 = .ok (.idiv, 1) := by decide +kernel
theorem dX12_stay_46 : decode cX12_stay 46 = .ok (.istore 4, 2) := by decide +kernel
theorem dX12_stay_48 : decode cX12_stay 48 = .ok (.aload_n 0, 1) := by decide +kernel
theorem dX12_stay_49 : decode cX12_stay 49 = .ok (.iload_n 1, 1) := by decide +kernel
theorem dX12_stay_50 : decode cX12_stay 50 = .ok (.iload 4, 2) := by decide +kernel
theorem dX12_stay_52 : decode cX12_stay 52 = .ok (.invokevirtual 381, 3) := by decide +kernel
theorem dX12_stay_55 : decode cX12_stay 55 = .ok (.iconst (-1), 1) := by decide +kernel
theorem dX12_stay_56 : decode cX12_stay 56 = .ok (.if_icmp .ne 9, 3) := by decide +kernel
theorem dX12_stay_59 : decode cX12_stay 59 = .ok (.iload 4, 2) := by decide +kernel
theorem dX12_stay_61 : decode cX12_stay 61 = .ok (.istore_n 3, 1) := by decide +kernel
theorem dX12_stay_62 : decode cX12_stay 62 = .ok (.goto 8, 3) := by decide +kernel
theorem dX12_stay_65 : decode cX12_stay 65 = .ok (.iload 4, 2) := by decide +kernel
theorem dX12_stay_67 : decode cX12_stay 67 = .ok (.iconst 1, 1) := by decide +kernel
theorem dX12_stay_68 : decode cX12_stay 68 = .ok (.iadd, 1) := by decide +kernel
theorem dX12_stay_69 : decode cX12_stay 69 = .ok (.istore_n 2, 1) := by decide +kernel
theorem dX12_stay_70 : decode cX12_stay 70 = .ok (.goto (-34), 3) := by decide +kernel
theorem dX12_stay_73 : decode cX12_stay 73 = .ok (.iload_n 2, 1) := by decide +kernel
theorem dX12_stay_74 : decode cX12_stay 74 = .ok (.ireturn, 1) := by decide +kernel
set_option maxRecDepth 20000 in
theorem ggX12_cap_X12_isPipe : GoodIn wsX12_cap wsX12_isPipe := goodIn_r _ [5, 6, 7, 8, 4, 9, 86, 87, 88, 89, 90, 91, 92, 93, 94, 95, 96, 97, 98, 99, 100, 101, 102, 103, 104, 105, 106, 107, 108, 109, 110, 111, 112, 113, 114, 115, 116, 117, 118, 119] (by decide +kernel) (by decide +kernel)
set_option maxRecDepth 20000 in
theorem gX12_cap_X12_isPipe : GoodIn wsX12_cap (wsV RX12 320 RX12 yX12_isPipe wsX12_isPipe) := goodIn_app (goodIn_of _ (by decide +kernel)) ggX12_cap_X12_isPipe
theorem dX12_cap_0 : decode cX12_cap 0 = .ok (.aload_n 0, 1) := by decide +kernel
theorem dX12_cap_1 : decode cX12_cap 1 = .ok (.iload_n 1, 1) := by decide +kernel
theorem dX12_cap_2 : decode cX12_cap 2 = .ok (.invokevirtual 320, 3) := by decide +kernel
theorem dX12_cap_5 : decode cX12_cap 5 = .ok (.ifCond .ne 6, 3) := by decide +kernel
theorem dX12_cap_8 : decode cX12_cap 8 = .ok (.bipush (-2), 2) := by decide +kernel
theorem dX12_cap_10 : decode cX12_cap 10 = .ok (.ireturn, 1) := by decide +kernel
theorem dX12_cap_11 : decode cX12_cap 11 = .ok (.sipush 999, 3) := by decide +kernel
theorem dX12_cap_14 : decode cX12_cap 14 = .ok (.istore_n 2, 1) := by decide +kernel
theorem dX12_cap_15 : decode cX12_cap 15 = .ok (.iload_n 2, 1) := by decide +kernel
theorem dX12_cap_16 : decode cX12_cap 16 = .ok (.ifCond .lt 26, 3) := by decide +kernel
theorem dX12_cap_19 : decode cX12_cap 19 = .ok (.aload_n 0, 1) := by decide +kernel
theorem dX12_cap_20 : decode cX12_cap 20 = .ok (.iload_n 2, 1) := by decide +kernel
theorem dX12_cap_21 : decode cX12_cap 21 = .ok (.invokevirtual 395, 3) := by decide +kernel
theorem dX12_cap_24 : decode cX12_cap 24 = .ok (.aload_n 0, 1) := by decide +kernel
theorem dX12_cap_25 : decode cX12_cap 25 = .ok (.iload_n 1, 1) := by decide +kernel
theorem dX12_cap_26 : decode cX12_cap 26 = .ok (.iconst 0, 1) := by decide +kernel
theorem dX12_cap_27 : decode cX12_cap 27 = .ok (.invokevirtual 381, 3) := by decide +kernel
theorem dX12_cap_30 : decode cX12_cap 30 = .ok (.iconst (-1), 1) := by decide +kernel
theorem dX12_cap_31 : decode cX12_cap 31 = .ok (.if_icmp .ne 5, 3) := by decide +kernel
theorem dX12_cap_34 : decode cX12_cap 34 = .ok (.iload_n 2, 1) := by decide +kernel
theorem dX12_cap_35 : decode cX12_cap 35 = .ok (.ireturn, 1) := by decide +kernel
theorem dX12_cap_36 : decode cX12_cap 36 = .ok (.iinc 2 (-1), 3) := by decide +kernel
theorem dX12_cap_39 : decode cX12_cap 39 = .ok (.goto (-24), 3) := by decide +kernel
theorem dX12_cap_42 : decode cX12_cap 42 = .ok (.iconst (-1), 1) := by decide +kernel
theorem dX12_cap_43 : decode cX12_cap 43 = .ok (.ireturn, 1) := by decide +kernel
set_option maxRecDepth 20000 in
theorem ggX12_prop_X12_isPipe : GoodIn wsX12_prop wsX12_isPipe := goodIn_r _ [5, 6, 7, 8, 4, 9, 90, 91, 92, 93, 94, 95, 96, 97, 98, 99, 100, 101, 102, 103, 104, 105, 106, 107, 108, 109, 110, 111, 112, 113, 114, 115, 116, 117, 118, 119, 120, 121, 122, 123] (by decide +kernel) (by decide +kernel)
set_option maxRecDepth 20000 in
theorem gX12_prop_X12_isPipe : GoodIn wsX12_prop (wsV RX12 320 RX12 yX12_isPipe wsX12_isPipe) := goodIn_app (goodIn_of _ (by decide +kernel)) ggX12_prop_X12_isPipe
theorem dX12_prop_0 : decode cX12_prop 0 = .ok (.aload_n 0, 1) := by decide +kernel
theorem dX12_prop_1 : decode cX12_prop 1 = .ok (.iload_n 1, 1) := by decide +kernel
theorem dX12_prop_2 : decode cX12_prop 2 = .ok (.invokevirtual 320, 3) := by decide +kernel
theorem dX12_prop_5 : decode cX12_prop 5 = .ok (.ifCond .eq 22, 3) := by decide +kernel
theorem dX12_prop_8 : decode cX12_prop 8 = .ok (.aload_n 0, 1) := by decide +kernel
theorem dX12_prop_9 : decode cX12_prop 9 = .ok (.iload_n 1, 1) := by decide +kernel
theorem dX12_prop_10 : decode cX12_prop 10 = .ok (.bipush 6, 2) := by decide +kernel
theorem dX12_prop_12 : decode cX12_prop 12 = .ok (.iload_n 2, 1) := by decide +kernel
theorem dX12_prop_13 : decode cX12_prop 13 = .ok (.ifCond .eq 7, 3) := by decide +kernel
theorem dX12_prop_16 : decode cX12_prop 16 = .ok (.iconst 1, 1) := by decide +kernel
theorem dX12_prop_17 : decode cX12_prop 17 = .ok (.goto 4, 3) := by decide +kernel
theorem dX12_prop_20 : decode cX12_prop 20 = .ok (.iconst 0, 1) := by decide +kernel
theorem dX12_prop_21 : decode cX12_prop 21 = .ok (.invokevirtual 398, 3) := by decide +kernel
theorem dX12_prop_24 : decode cX12_prop 24 = .ok (.goto 5, 3) := by decide +kernel
theorem dX12_prop_27 : decode cX12_prop 27 = .ok (.bipush (-2), 2) := by decide +kernel
theorem dX12_prop_29 : decode cX12_prop 29 = .ok (.ireturn, 1) := by decide +kernel
set_option maxRecDepth 20000 in
theorem ggX12_widen_X12_isPipe : GoodIn wsX12_widen wsX12_isPipe := goodIn_r _ [6, 7, 8, 9, 5, 10, 91, 92, 93, 94, 95, 96, 97, 98, 99, 100, 101, 102, 103, 104, 105, 106, 107, 108, 109, 110, 111, 112, 113, 114, 115, 116, 117, 118, 119, 120, 121, 122, 123, 124] (by decide +kernel) (by decide +kernel)
set_option maxRecDepth 20000 in
theorem gX12_widen_X12_isPipe : GoodIn wsX12_widen (wsV RX12 320 RX12 yX12_isPipe wsX12_isPipe) := goodIn_app (goodIn_of _ (by decide +kernel)) ggX12_widen_X12_isPipe
set_option maxRecDepth 20000 in
theorem ggX12_widen_X12_in : GoodIn wsX12_widen wsX12_in := goodIn_r _ [10] (by decide +kernel) (by decide +kernel)
set_option maxRecDepth 20000 in
theorem gX12_widen_X12_in : GoodIn wsX12_widen (va_wsS RX12 76 yX12_in wsX12_in) := goodIn_app (goodIn_of _ (by decide +kernel)) ggX12_widen_X12_in
theorem dX12_widen_0 : decode cX12_widen 0 = .ok (.aload_n 0, 1) := by decide +kernel
theorem dX12_widen_1 : decode cX12_widen 1 = .ok (.iload_n 1, 1) := by decide +kernel
theorem dX12_widen_2 : decode cX12_widen 2 = .ok (.invokevirtual 320, 3) := by decide +kernel
theorem dX12_widen_5 : decode cX12_widen 5 = .ok (.ifCond .eq 25, 3) := by decide +kernel
theorem dX12_widen_8 : decode cX12_widen 8 = .ok (.iload_n 2, 1) := by decide +kernel
theorem dX12_widen_9 : decode cX12_widen 9 = .ok (.i2l, 1) := by decide +kernel
theorem dX12_widen_10 : decode cX12_widen 10 = .ok (.lconst 1, 1) := by decide +kernel
theorem dX12_widen_11 : decode cX12_widen 11 = .ok (.ldc2_w 401, 3) := by decide +kernel
theorem dX12_widen_14 : decode cX12_widen 14 = .ok (.invokestatic 76, 3) := by decide +kernel
theorem dX12_widen_17 : decode cX12_widen 17 = .ok (.ifCond .eq 13, 3) := by decide +kernel
theorem dX12_widen_20 : decode cX12_widen 20 = .ok (.aload_n 0, 1) := by decide +kernel
theorem dX12_widen_21 : decode cX12_widen 21 = .ok (.iload_n 1, 1) := by decide +kernel
theorem dX12_widen_22 : decode cX12_widen 22 = .ok (.iconst 2, 1) := by decide +kernel
theorem dX12_widen_23 : decode cX12_widen 23 = .ok (.iload_n 2, 1) := by decide +kernel
theorem dX12_widen_24 : decode cX12_widen 24 = .ok (.invokevirtual 398, 3) := by decide +kernel
theorem dX12_widen_27 : decode cX12_widen 27 = .ok (.goto 5, 3) := by decide +kernel
theorem dX12_widen_30 : decode cX12_widen 30 = .ok (.bipush (-2), 2) := by decide +kernel
theorem dX12_widen_32 : decode cX12_widen 32 = .ok (.ireturn, 1) := by decide +kernel
set_option maxRecDepth 20000 in
theorem ggX12_lever_X12_isSlot : GoodIn wsX12_lever wsX12_isSlot := goodIn_r _ [12, 13, 14, 15, 11, 16] (by decide +kernel) (by decide +kernel)
set_option maxRecDepth 20000 in
theorem gX12_lever_X12_isSlot : GoodIn wsX12_lever (va_wsS RX12 403 yX12_isSlot wsX12_isSlot) := goodIn_app (goodIn_of _ (by decide +kernel)) ggX12_lever_X12_isSlot
set_option maxRecDepth 20000 in
theorem ggX12_lever_X12_isPipe : GoodIn wsX12_lever wsX12_isPipe := goodIn_r _ [20, 7, 14, 15, 11, 16, 46, 47, 48, 49, 50, 51, 52, 53, 54, 55, 56, 57, 58, 59, 60, 61, 62, 63, 64, 65, 66, 67, 68, 69, 70, 71, 72, 73, 74, 75, 76, 77, 78, 79] (by decide +kernel) (by decide +kernel)
set_option maxRecDepth 20000 in
theorem gX12_lever_X12_isPipe : GoodIn wsX12_lever (wsV RX12 320 RX12 yX12_isPipe wsX12_isPipe) := goodIn_app (goodIn_of _ (by decide +kernel)) ggX12_lever_X12_isPipe
set_option maxRecDepth 20000 in
theorem ggX12_lever_X12_in : GoodIn wsX12_lever wsX12_in := goodIn_r _ [16] (by decide +kernel) (by decide +kernel)
set_option maxRecDepth 20000 in
theorem gX12_lever_X12_in : GoodIn wsX12_lever (va_wsS RX12 76 yX12_in wsX12_in) := goodIn_app (goodIn_of _ (by decide +kernel)) ggX12_lever_X12_in
theorem dX12_lever_0 : decode cX12_lever 0 = .ok (.iload_n 1, 1) := by decide +kernel
theorem dX12_lever_1 : decode cX12_lever 1 = .ok (.invokestatic 403, 3) := by decide +kernel
theorem dX12_lever_4 : decode cX12_lever 4 = .ok (.ifCond .eq 11, 3) := by decide +kernel
theorem dX12_lever_7 : decode cX12_lever 7 = .ok (.aload_n 0, 1) := by decide +kernel
theorem dX12_lever_8 : decode cX12_lever 8 = .ok (.iload_n 2, 1) := by decide +kernel
theorem dX12_lever_9 : decode cX12_lever 9 = .ok (.invokevirtual 320, 3) := by decide +kernel
theorem dX12_lever_12 : decode cX12_lever 12 = .ok (.ifCond .ne 6, 3) := by decide +kernel
theorem dX12_lever_15 : decode cX12_lever 15 = .ok (.bipush (-2), 2) := by decide +kernel
theorem dX12_lever_17 : decode cX12_lever 17 = .ok (.ireturn, 1) := by decide +kernel
theorem dX12_lever_18 : decode cX12_lever 18 = .ok (.aload_n 0, 1) := by decide +kernel
theorem dX12_lever_19 : decode cX12_lever 19 = .ok (.getfield 61, 3) := by decide +kernel
theorem dX12_lever_22 : decode cX12_lever 22 = .ok (.iload_n 1, 1) := by decide +kernel
theorem dX12_lever_23 : decode cX12_lever 23 = .ok (.iaload, 1) := by decide +kernel
theorem dX12_lever_24 : decode cX12_lever 24 = .ok (.iconst (-1), 1) := by decide +kernel
theorem dX12_lever_25 : decode cX12_lever 25 = .ok (.if_icmp .ne 6, 3) := by decide +kernel
theorem dX12_lever_28 : decode cX12_lever 28 = .ok (.bipush (-6), 2) := by decide +kernel
theorem dX12_lever_30 : decode cX12_lever 30 = .ok (.ireturn, 1) := by decide +kernel
theorem dX12_lever_31 : decode cX12_lever 31 = .ok (.aload_n 0, 1) := by decide +kernel
theorem dX12_lever_32 : decode cX12_lever 32 = .ok (.getfield 61, 3) := by decide +kernel
theorem dX12_lever_35 : decode cX12_lever 35 = .ok (.iload_n 1, 1) := by decide +kernel
theorem dX12_lever_36 : decode cX12_lever 36 = .ok (.iaload, 1) := by decide +kernel
theorem dX12_lever_37 : decode cX12_lever 37 = .ok (.iconst 2, 1) := by decide +kernel
theorem dX12_lever_38 : decode cX12_lever 38 = .ok (.idiv, 1) := by decide +kernel
theorem dX12_lever_39 : decode cX12_lever 39 = .ok (.istore_n 3, 1) := by decide +kernel
theorem dX12_lever_40 : decode cX12_lever 40 = .ok (.iload_n 3, 1) := by decide +kernel
theorem dX12_lever_41 : decode cX12_lever 41 = .ok (.i2l, 1) := by decide +kernel
theorem dX12_lever_42 : decode cX12_lever 42 = .ok (.lconst 1, 1) := by decide +kernel
theorem dX12_lever_43 : decode cX12_lever 43 = .ok (.ldc2_w 406, 3) := by decide +kernel
theorem dX12_lever_46 : decode cX12_lever 46 = .ok (.invokestatic 76, 3) := by decide +kernel
theorem dX12_lever_49 : decode cX12_lever 49 = .ok (.ifCond .ne 6, 3) := by decide +kernel
theorem dX12_lever_52 : decode cX12_lever 52 = .ok (.bipush (-2), 2) := by decide +kernel
theorem dX12_lever_54 : decode cX12_lever 54 = .ok (.ireturn, 1) := by decide +kernel
theorem dX12_lever_55 : decode cX12_lever 55 = .ok (.lconst 0, 1) := by decide +kernel
theorem dX12_lever_56 : decode cX12_lever 56 = .ok (.lstore 4, 2) := by decide +kernel
theorem dX12_lever_58 : decode cX12_lever 58 = .ok (.lconst 0, 1) := by decide +kernel
theorem dX12_lever_59 : decode cX12_lever 59 = .ok (.lstore 6, 2) := by decide +kernel
theorem dX12_lever_61 : decode cX12_lever 61 = .ok (.iconst 0, 1) := by decide +kernel
theorem dX12_lever_62 : decode cX12_lever 62 = .ok (.istore 8, 2) := by decide +kernel
theorem dX12_lever_64 : decode cX12_lever 64 = .ok (.iload 8, 2) := by decide +kernel
theorem dX12_lever_66 : decode cX12_lever 66 = .ok (.iload_n 3, 1) := by decide +kernel
theorem dX12_lever_67 : decode cX12_lever 67 = .ok (.if_icmp .ge 103, 3) := by decide +kernel
theorem dX12_lever_70 : decode cX12_lever 70 = .ok (.aload_n 0, 1) := by decide +kernel
theorem dX12_lever_71 : decode cX12_lever 71 = .ok (.getfield 67, 3) := by decide +kernel
theorem dX12_lever_74 : decode cX12_lever 74 = .ok (.bipush 60, 2) := by decide +kernel
theorem dX12_lever_76 : decode cX12_lever 76 = .ok (.iload_n 1, 1) := by decide +kernel
theorem dX12_lever_77 : decode cX12_lever 77 = .ok (.imul, 1) := by decide +kernel
theorem dX12_lever_78 : decode cX12_lever 78 = .ok (.iconst 2, 1) := by decide +kernel
theorem dX12_lever_79 : decode cX12_lever 79 = .ok (.iload 8, 2) := by decide +kernel
theorem dX12_lever_81 : decode cX12_lever 81 = .ok (.imul, 1) := by decide +kernel
theorem dX12_lever_82 : decode cX12_lever 82 = .ok (.iadd, 1) := by decide +kernel
theorem dX12_lever_83 : decode cX12_lever 83 = .ok (.laload, 1) := by decide +kernel
theorem dX12_lever_84 : decode cX12_lever 84 = .ok (.lstore 9, 2) := by decide +kernel
theorem dX12_lever_86 : decode cX12_lever 86 = .ok (.aload_n 0, 1) := by decide +kernel
theorem dX12_lever_87 : decode cX12_lever 87 = .ok (.getfield 67, 3) := by decide +kernel
theorem dX12_lever_90 : decode cX12_lever 90 = .ok (.bipush 60, 2) := by decide +kernel
theorem dX12_lever_92 : decode cX12_lever 92 = .ok (.iload_n 1, 1) := by decide +kernel
theorem dX12_lever_93 : decode cX12_lever 93 = .ok (.imul, 1) := by decide +kernel
theorem dX12_lever_94 : decode cX12_lever 94 = .ok (.iconst 2, 1) := by decide +kernel
theorem dX12_lever_95 : decode cX12_lever 95 = .ok (.iload 8, 2) := by decide +kernel
theorem dX12_lever_97 : decode cX12_lever 97 = .ok (.imul, 1) := by decide +kernel
theorem dX12_lever_98 : decode cX12_lever 98 = .ok (.iadd, 1) := by decide +kernel
theorem dX12_lever_99 : decode cX12_lever 99 = .ok (.iconst 1, 1) := by decide +kernel
theorem dX12_lever_100 : decode cX12_lever 100 = .ok (.iadd, 1) := by decide +kernel
theorem dX12_lever_101 : decode cX12_lever 101 = .ok (.laload, 1) := by decide +kernel
theorem dX12_lever_102 : decode cX12_lever 102 = .ok (.lstore 11, 2) := by decide +kernel
theorem dX12_lever_104 : decode cX12_lever 104 = .ok (.lload 9, 2) := by decide +kernel
theorem dX12_lever_106 : decode cX12_lever 106 = .ok (.lconst 0, 1) := by decide +kernel
theorem dX12_lever_107 : decode cX12_lever 107 = .ok (.ldc2_w 74, 3) := by decide +kernel
theorem dX12_lever_110 : decode cX12_lever 110 = .ok (.invokestatic 76, 3) := by decide +kernel
theorem dX12_lever_113 : decode cX12_lever 113 = .ok (.ifCond .eq 15, 3) := by decide +kernel
theorem dX12_lever_116 : decode cX12_lever 116 = .ok (.lload 11, 2) := by decide +kernel
theorem dX12_lever_118 : decode cX12_lever 118 = .ok (.lconst 1, 1) := by decide +kernel
theorem dX12_lever_119 : decode cX12_lever 119 = .ok (.ldc2_w 408, 3) := by decide +kernel
theorem dX12_lever_122 : decode cX12_lever 122 = .ok (.invokestatic 76, 3) := by decide +kernel
theorem dX12_lever_125 : decode cX12_lever 125 = .ok (.ifCond .ne 6, 3) := by decide +kernel
theorem dX12_lever_128 : decode cX12_lever 128 = .ok (.bipush (-2), 2) := by decide +kernel
theorem dX12_lever_130 : decode cX12_lever 130 = .ok (.ireturn, 1) := by decide +kernel
theorem dX12_lever_131 : decode cX12_lever 131 = .ok (.lload 4, 2) := by decide +kernel
theorem dX12_lever_133 : decode cX12_lever 133 = .ok (.lload 9, 2) := by decide +kernel
theorem dX12_lever_135 : decode cX12_lever 135 = .ok (.lconst 0, 1) := by decide +kernel
theorem dX12_lever_136 : decode cX12_lever 136 = .ok (.lcmp, 1) := by decide +kernel
theorem dX12_lever_137 : decode cX12_lever 137 = .ok (.ifCond .ne 8, 3) := by decide +kernel
theorem dX12_lever_140 : decode cX12_lever 140 = .ok (.lload 11, 2) := by decide +kernel
theorem dX12_lever_142 : decode cX12_lever 142 = .ok (.goto 4, 3) := by decide +kernel
theorem dX12_lever_145 : decode cX12_lever 145 = .ok (.lconst 0, 1) := by decide +kernel
theorem dX12_lever_146 : decode cX12_lever 146 = .ok (.ladd, 1) := by decide +kernel
theorem dX12_lever_147 : decode cX12_lever 147 = .ok (.lstore 4, 2) := by decide +kernel
theorem dX12_lever_149 : decode cX12_lever 149 = .ok (.lload 6, 2) := by decide +kernel
theorem dX12_lever_151 : decode cX12_lever 151 = .ok (.lload 9, 2) := by decide +kernel
theorem dX12_lever_153 : decode cX12_lever 153 = .ok (.l2i, 1) := by decide +kernel
theorem dX12_lever_154 : decode cX12_lever 154 = .ok (.invokestatic 311, 3) := by decide +kernel
theorem dX12_lever_157 : decode cX12_lever 157 = .ok (.i2l, 1) := by decide +kernel
theorem dX12_lever_158 : decode cX12_lever 158 = .ok (.lload 11, 2) := by decide +kernel
theorem dX12_lever_160 : decode cX12_lever 160 = .ok (.lmul, 1) := by decide +kernel
theorem dX12_lever_161 : decode cX12_lever 161 = .ok (.ladd, 1) := by decide +kernel
theorem dX12_lever_162 : decode cX12_lever 162 = .ok (.lstore 6, 2) := by decide +kernel
theorem dX12_lever_164 : decode cX12_lever 164 = .ok (.iinc 8 1, 3) := by decide +kernel
theorem dX12_lever_167 : decode cX12_lever 167 = .ok (.goto (-103), 3) := by decide +kernel
theorem dX12_lever_170 : decode cX12_lever 170 = .ok (.aload_n 0, 1) := by decide +kernel
theorem dX12_lever_171 : decode cX12_lever 171 = .ok (.iload_n 2, 1) := by decide +kernel
theorem dX12_lever_172 : decode cX12_lever 172 = .ok (.iconst 0, 1) := by decide +kernel
theorem dX12_lever_173 : decode cX12_lever 173 = .ok (.invokevirtual 308, 3) := by decide +kernel
theorem dX12_lever_176 : decode cX12_lever 176 = .ok (.istore 8, 2) := by decide +kernel
theorem dX12_lever_178 : decode cX12_lever 178 = .ok (.aload_n 0, 1) := by decide +kernel
theorem dX12_lever_179 : decode cX12_lever 179 = .ok (.iload_n 2, 1) := by decide +kernel
theorem dX12_lever_180 : decode cX12_lever 180 = .ok (.iconst 1, 1) := by decide +kernel
theorem dX12_lever_181 : decode cX12_lever 181 = .ok (.invokevirtual 308, 3) := by decide +kernel
theorem dX12_lever_184 : decode cX12_lever 184 = .ok (.istore 9, 2) := by decide +kernel
theorem dX12_lever_186 : decode cX12_lever 186 = .ok (.lload 4, 2) := by decide +kernel
theorem dX12_lever_188 : decode cX12_lever 188 = .ok (.ldc2_w 336, 3) := by decide +kernel
theorem dX12_lever_191 : decode cX12_lever 191 = .ok (.iload 9, 2) := by decide +kernel
theorem dX12_lever_193 : decode cX12_lever 193 = .ok (.iload 8, 2) := by decide +kernel
theorem dX12_lever_195 : decode cX12_lever 195 = .ok (.isub, 1) := by decide +kernel
theorem dX12_lever_196 : decode cX12_lever 196 = .ok (.i2l, 1) := by decide +kernel
theorem dX12_lever_197 : decode cX12_lever 197 = .ok (.lmul, 1) := by decide +kernel
theorem dX12_lever_198 : decode cX12_lever 198 = .ok (.lcmp, 1) := by decide +kernel
theorem dX12_lever_199 : decode cX12_lever 199 = .ok (.ifCond .ne 35, 3) := by decide +kernel
theorem dX12_lever_202 : decode cX12_lever 202 = .ok (.lload 6, 2) := by decide +kernel
theorem dX12_lever_204 : decode cX12_lever 204 = .ok (.aload_n 0, 1) := by decide +kernel
theorem dX12_lever_205 : decode cX12_lever 205 = .ok (.getfield 13, 3) := by decide +kernel
theorem dX12_lever_208 : decode cX12_lever 208 = .ok (.bipush 10, 2) := by decide +kernel
theorem dX12_lever_210 : decode cX12_lever 210 = .ok (.iconst 2, 1) := by decide +kernel
theorem dX12_lever_211 : decode cX12_lever 211 = .ok (.iload 9, 2) := by decide +kernel
theorem dX12_lever_213 : decode cX12_lever 213 = .ok (.imul, 1) := by decide +kernel
theorem dX12_lever_214 : decode cX12_lever 214 = .ok (.iadd, 1) := by decide +kernel
theorem dX12_lever_215 : decode cX12_lever 215 = .ok (.iaload, 1) := by decide +kernel
theorem dX12_lever_216 : decode cX12_lever 216 = .ok (.aload_n 0, 1) := by decide +kernel
theorem dX12_lever_217 : decode cX12_lever 217 = .ok (.getfield 13, 3) := by decide +kernel
theorem dX12_lever_220 : decode cX12_lever 220 = .ok (.bipush 10, 2) := by decide +kernel
theorem dX12_lever_222 : decode cX12_lever 222 = .ok (.iconst 2, 1) := by decide +kernel
theorem dX12_lever_223 : decode cX12_lever 223 = .ok (.iload 8, 2) := by decide +kernel
theorem dX12_lever_225 : decode cX12_lever 225 = .ok (.imul, 1) := by decide +kernel
theorem dX12_lever_226 : decode cX12_lever 226 = .ok (.iadd, 1) := by decide +kernel
theorem dX12_lever_227 : decode cX12_lever 227 = .ok (.iaload, 1) := by decide +kernel
theorem dX12_lever_228 : decode cX12_lever 228 = .ok (.isub, 1) := by decide +kernel
theorem dX12_lever_229 : decode cX12_lever 229 = .ok (.i2l, 1) := by decide +kernel
theorem dX12_lever_230 : decode cX12_lever 230 = .ok (.lcmp, 1) := by decide +kernel
theorem dX12_lever_231 : decode cX12_lever 231 = .ok (.ifCond .eq 6, 3) := by decide +kernel
theorem dX12_lever_234 : decode cX12_lever 234 = .ok (.bipush (-5), 2) := by decide +kernel
theorem dX12_lever_236 : decode cX12_lever 236 = .ok (.ireturn, 1) := by decide +kernel
theorem dX12_lever_237 : decode cX12_lever 237 = .ok (.bipush 26, 2) := by decide +kernel
theorem dX12_lever_239 : decode cX12_lever 239 = .ok (.bipush 24, 2) := by decide +kernel
theorem dX12_lever_241 : decode cX12_lever 241 = .ok (.iload_n 2, 1) := by decide +kernel
theorem dX12_lever_242 : decode cX12_lever 242 = .ok (.imul, 1) := by decide +kernel
theorem dX12_lever_243 : decode cX12_lever 243 = .ok (.iadd, 1) := by decide +kernel
theorem dX12_lever_244 : decode cX12_lever 244 = .ok (.istore 10, 2) := by decide +kernel
theorem dX12_lever_246 : decode cX12_lever 246 = .ok (.aload_n 0, 1) := by decide +kernel
theorem dX12_lever_247 : decode cX12_lever 247 = .ok (.getfield 55, 3) := by decide +kernel
theorem dX12_lever_250 : decode cX12_lever 250 = .ok (.bipush 16, 2) := by decide +kernel
theorem dX12_lever_252 : decode cX12_lever 252 = .ok (.aload_n 0, 1) := by decide +kernel
theorem dX12_lever_253 : decode cX12_lever 253 = .ok (.getfield 13, 3) := by decide +kernel
theorem dX12_lever_256 : decode cX12_lever 256 = .ok (.iload 10, 2) := by decide +kernel
theorem dX12_lever_258 : decode cX12_lever 258 = .ok (.iconst 3, 1) := by decide +kernel
theorem dX12_lever_259 : decode cX12_lever 259 = .ok (.iadd, 1) := by decide +kernel
theorem dX12_lever_260 : decode cX12_lever 260 = .ok (.iaload, 1) := by decide +kernel
theorem dX12_lever_261 : decode cX12_lever 261 = .ok (.iastore, 1) := by decide +kernel
theorem dX12_lever_262 : decode cX12_lever 262 = .ok (.iconst 0, 1) := by decide +kernel
theorem dX12_lever_263 : decode cX12_lever 263 = .ok (.istore 11, 2) := by decide +kernel
theorem dX12_lever_265 : decode cX12_lever 265 = .ok (.iload 11, 2) := by decide +kernel
theorem dX12_lever_267 : decode cX12_lever 267 = .ok (.bipush 16, 2) := by decide +kernel
theorem dX12_lever_269 : decode cX12_lever 269 = .ok (.if_icmp .ge 29, 3) := by decide +kernel
theorem dX12_lever_272 : decode cX12_lever 272 = .ok (.aload_n 0, 1) := by decide +kernel
theorem dX12_lever_273 : decode cX12_lever 273 = .ok (.getfield 55, 3) := by decide +kernel
theorem dX12_lever_276 : decode cX12_lever 276 = .ok (.iload 11, 2) := by decide +kernel
theorem dX12_lever_278 : decode cX12_lever 278 = .ok (.aload_n 0, 1) := by decide +kernel
theorem dX12_lever_279 : decode cX12_lever 279 = .ok (.getfield 13, 3) := by decide +kernel
theorem dX12_lever_282 : decode cX12_lever 282 = .ok (.iload 10, 2) := by decide +kernel
theorem dX12_lever_284 : decode cX12_lever 284 = .ok (.bipush 8, 2) := by decide +kernel
theorem dX12_lever_286 : decode cX12_lever 286 = .ok (.iadd, 1) := by decide +kernel
theorem dX12_lever_287 : decode cX12_lever 287 = .ok (.iload 11, 2) := by decide +kernel
theorem dX12_lever_289 : decode cX12_lever 289 = .ok (.iadd, 1) := by decide +kernel
theorem dX12_lever_290 : decode cX12_lever 290 = .ok (.iaload, 1) := by decide +kernel
theorem dX12_lever_291 : decode cX12_lever 291 = .ok (.iastore, 1) := by decide +kernel
theorem dX12_lever_292 : decode cX12_lever 292 = .ok (.iinc 11 1, 3) := by decide +kernel
theorem dX12_lever_295 : decode cX12_lever 295 = .ok (.goto (-30), 3) := by decide +kernel
theorem dX12_lever_298 : decode cX12_lever 298 = .ok (.aload_n 0, 1) := by decide +kernel
theorem dX12_lever_299 : decode cX12_lever 299 = .ok (.getfield 13, 3) := by decide +kernel
theorem dX12_lever_302 : decode cX12_lever 302 = .ok (.iload 10, 2) := by decide +kernel
theorem dX12_lever_304 : decode cX12_lever 304 = .ok (.iconst 3, 1) := by decide +kernel
theorem dX12_lever_305 : decode cX12_lever 305 = .ok (.iadd, 1) := by decide +kernel
theorem dX12_lever_306 : decode cX12_lever 306 = .ok (.iload_n 3, 1) := by decide +kernel
theorem dX12_lever_307 : decode cX12_lever 307 = .ok (.iastore, 1) := by decide +kernel
theorem dX12_lever_308 : decode cX12_lever 308 = .ok (.iconst 0, 1) := by decide +kernel
theorem dX12_lever_309 : decode cX12_lever 309 = .ok (.istore 11, 2) := by decide +kernel
theorem dX12_lever_311 : decode cX12_lever 311 = .ok (.iload 11, 2) := by decide +kernel
theorem dX12_lever_313 : decode cX12_lever 313 = .ok (.iconst 2, 1) := by decide +kernel
theorem dX12_lever_314 : decode cX12_lever 314 = .ok (.iload_n 3, 1) := by decide +kernel
theorem dX12_lever_315 : decode cX12_lever 315 = .ok (.imul, 1) := by decide +kernel
theorem dX12_lever_316 : decode cX12_lever 316 = .ok (.if_icmp .ge 35, 3) := by decide +kernel
theorem dX12_lever_319 : decode cX12_lever 319 = .ok (.aload_n 0, 1) := by decide +kernel
theorem dX12_lever_320 : decode cX12_lever 320 = .ok (.getfield 13, 3) := by decide +kernel
theorem dX12_lever_323 : decode cX12_lever 323 = .ok (.iload 10, 2) := by decide +kernel
theorem dX12_lever_325 : decode cX12_lever 325 = .ok (.bipush 8, 2) := by decide +kernel
theorem dX12_lever_327 : decode cX12_lever 327 = .ok (.iadd, 1) := by decide +kernel
theorem dX12_lever_328 : decode cX12_lever 328 = .ok (.iload 11, 2) := by decide +kernel
theorem dX12_lever_330 : decode cX12_lever 330 = .ok (.iadd, 1) := by decide +kernel
theorem dX12_lever_331 : decode cX12_lever 331 = .ok (.aload_n 0, 1) := by decide +kernel
theorem dX12_lever_332 : decode cX12_lever 332 = .ok (.getfield 67, 3) := by decide +kernel
theorem dX12_lever_335 : decode cX12_lever 335 = .ok (.bipush 60, 2) := by decide +kernel
theorem dX12_lever_337 : decode cX12_lever 337 = .ok (.iload_n 1, 1) := by decide +kernel
theorem dX12_lever_338 : decode cX12_lever 338 = .ok (.imul, 1) := by decide +kernel
theorem dX12_lever_339 : decode cX12_lever 339 = .ok (.iload 11, 2) := by decide +kernel
theorem dX12_lever_341 : decode cX12_lever 341 = .ok (.iadd, 1) := by decide +kernel
theorem dX12_lever_342 : decode cX12_lever 342 = .ok (.laload, 1) := by decide +kernel
theorem dX12_lever_343 : decode cX12_lever 343 = .ok (.l2i, 1) := by decide +kernel
theorem dX12_lever_344 : decode cX12_lever 344 = .ok (.iastore, 1) := by decide +kernel
theorem dX12_lever_345 : decode cX12_lever 345 = .ok (.iinc 11 1, 3) := by decide +kernel
theorem dX12_lever_348 : decode cX12_lever 348 = .ok (.goto (-37), 3) := by decide +kernel
theorem dX12_lever_351 : decode cX12_lever 351 = .ok (.aload_n 0, 1) := by decide +kernel
theorem dX12_lever_352 : decode cX12_lever 352 = .ok (.iload_n 2, 1) := by decide +kernel
theorem dX12_lever_353 : decode cX12_lever 353 = .ok (.invokevirtual 328, 3) := by decide +kernel
theorem dX12_lever_356 : decode cX12_lever 356 = .ok (.istore 11, 2) := by decide +kernel
theorem dX12_lever_358 : decode cX12_lever 358 = .ok (.aload_n 0, 1) := by decide +kernel
theorem dX12_lever_359 : decode cX12_lever 359 = .ok (.getfield 13, 3) := by decide +kernel
theorem dX12_lever_362 : decode cX12_lever 362 = .ok (.iload 10, 2) := by decide +kernel
theorem dX12_lever_364 : decode cX12_lever 364 = .ok (.iconst 3, 1) := by decide +kernel
theorem dX12_lever_365 : decode cX12_lever 365 = .ok (.iadd, 1) := by decide +kernel
theorem dX12_lever_366 : decode cX12_lever 366 = .ok (.aload_n 0, 1) := by decide +kernel
theorem dX12_lever_367 : decode cX12_lever 367 = .ok (.getfield 55, 3) := by decide +kernel
theorem dX12_lever_370 : decode cX12_lever 370 = .ok (.bipush 16, 2) := by decide +kernel
theorem dX12_lever_372 : decode cX12_lever 372 = .ok (.iaload, 1) := by decide +kernel
theorem dX12_lever_373 : decode cX12_lever 373 = .ok (.iastore, 1) := by decide +kernel
theorem dX12_lever_374 : decode cX12_lever 374 = .ok (.iconst 0, 1) := by decide +kernel
theorem dX12_lever_375 : decode cX12_lever 375 = .ok (.istore 12, 2) := by decide +kernel
theorem dX12_lever_377 : decode cX12_lever 377 = .ok (.iload 12, 2) := by decide +kernel
theorem dX12_lever_379 : decode cX12_lever 379 = .ok (.bipush 16, 2) := by decide +kernel
theorem dX12_lever_381 : decode cX12_lever 381 = .ok (.if_icmp .ge 29, 3) := by decide +kernel
theorem dX12_lever_384 : decode cX12_lever 384 = .ok (.aload_n 0, 1) := by decide +kernel
theorem dX12_lever_385 : decode cX12_lever 385 = .ok (.getfield 13, 3) := by decide +kernel
theorem dX12_lever_388 : decode cX12_lever 388 = .ok (.iload 10, 2) := by decide +kernel
theorem dX12_lever_390 : decode cX12_lever 390 = .ok (.bipush 8, 2) := by decide +kernel
theorem dX12_lever_392 : decode cX12_lever 392 = .ok (.iadd, 1) := by decide +kernel
theorem dX12_lever_393 : decode cX12_lever 393 = .ok (.iload 12, 2) := by decide +kernel
theorem dX12_lever_395 : decode cX12_lever 395 = .ok (.iadd, 1) := by decide +kernel
theorem dX12_lever_396 : decode cX12_lever 396 = .ok (.aload_n 0, 1) := by decide +kernel
theorem dX12_lever_397 : decode cX12_lever 397 = .ok (.getfield 55, 3) := by decide +kernel
theorem dX12_lever_400 : decode cX12_lever 400 = .ok (.iload 12, 2) := by decide +kernel
theorem dX12_lever_402 : decode cX12_lever 402 = .ok (.iaload, 1) := by decide +kernel
theorem dX12_lever_403 : decode cX12_lever 403 = .ok (.iastore, 1) := by decide +kernel
theorem dX12_lever_404 : decode cX12_lever 404 = .ok (.iinc 12 1, 3) := by decide +kernel
theorem dX12_lever_407 : decode cX12_lever 407 = .ok (.goto (-30), 3) := by decide +kernel
theorem dX12_lever_410 : decode cX12_lever 410 = .ok (.iload 11, 2) := by decide +kernel
theorem dX12_lever_412 : decode cX12_lever 412 = .ok (.ireturn, 1) := by decide +kernel
theorem dX12_shows_0 : decode cX12_shows 0 = .ok (.iconst 0, 1) := by decide +kernel
theorem dX12_shows_1 : decode cX12_shows 1 = .ok (.istore_n 2, 1) := by decide +kernel
theorem dX12_shows_2 : decode cX12_shows 2 = .ok (.iconst 0, 1) := by decide +kernel
theorem dX12_shows_3 : decode cX12_shows 3 = .ok (.istore_n 3, 1) := by decide +kernel
theorem dX12_shows_4 : decode cX12_shows 4 = .ok (.iload_n 3, 1) := by decide +kernel
theorem dX12_shows_5 : decode cX12_shows 5 = .ok (.aload_n 0, 1) := by decide +kernel
theorem dX12_shows_6 : decode cX12_shows 6 = .ok (.getfield 13, 3) := by decide +kernel
theorem dX12_shows_9 : decode cX12_shows 9 = .ok (.iconst 2, 1) := by decide +kernel
theorem dX12_shows_10 : decode cX12_shows 10 = .ok (.iaload, 1) := by decide +kernel
theorem dX12_shows_11 : decode cX12_shows 11 = .ok (.if_icmp .ge 41, 3) := by decide +kernel
theorem dX12_shows_14 : decode cX12_shows 14 = .ok (.aload_n 0, 1) := by decide +kernel
theorem dX12_shows_15 : decode cX12_shows 15 = .ok (.iload_n 3, 1) := by decide +kernel
theorem dX12_shows_16 : decode cX12_shows 16 = .ok (.invokevirtual 384, 3) := by decide +kernel
theorem dX12_shows_19 : decode cX12_shows 19 = .ok (.iconst (-1), 1) := by decide +kernel
theorem dX12_shows_20 : decode cX12_shows 20 = .ok (.if_icmp .ne 6, 3) := by decide +kernel
theorem dX12_shows_23 : decode cX12_shows 23 = .ok (.goto 23, 3) := by decide +kernel
theorem dX12_shows_26 : decode cX12_shows 26 = .ok (.iload_n 2, 1) := by decide +kernel
theorem dX12_shows_27 : decode cX12_shows 27 = .ok (.aload_n 0, 1) := by decide +kernel
theorem dX12_shows_28 : decode cX12_shows 28 = .ok (.iload_n 3, 1) := by decide +kernel
theorem dX12_shows_29 : decode cX12_shows 29 = .ok (.iload_n 1, 1) := by decide +kernel
theorem dX12_shows_30 : decode cX12_shows 30 = .ok (.iconst 0, 1) := by decide +kernel
theorem dX12_shows_31 : decode cX12_shows 31 = .ok (.invokevirtual 352, 3) := by decide +kernel
theorem dX12_shows_34 : decode cX12_shows 34 = .ok (.bipush 100, 2) := by decide +kernel
theorem dX12_shows_36 : decode cX12_shows 36 = .ok (.if_icmp .le 7, 3) := by decide +kernel
theorem dX12_shows_39 : decode cX12_shows 39 = .ok (.iconst 1, 1) := by decide +kernel
theorem dX12_shows_40 : decode cX12_shows 40 = .ok (.goto 4, 3) := by decide +kernel
theorem dX12_shows_43 : decode cX12_shows 43 = .ok (.iconst 0, 1) := by decide +kernel
theorem dX12_shows_44 : decode cX12_shows 44 = .ok (.iadd, 1) := by decide +kernel
theorem dX12_shows_45 : decode cX12_shows 45 = .ok (.istore_n 2, 1) := by decide +kernel
theorem dX12_shows_46 : decode cX12_shows 46 = .ok (.iinc 3 1, 3) := by decide +kernel
theorem dX12_shows_49 : decode cX12_shows 49 = .ok (.goto (-45), 3) := by decide +kernel
theorem dX12_shows_52 : decode cX12_shows 52 = .ok (.iload_n 2, 1) := by decide +kernel
theorem dX12_shows_53 : decode cX12_shows 53 = .ok (.ireturn, 1) := by decide +kernel
set_option maxRecDepth 20000 in
theorem ggX12_trial_X12_isPress : GoodIn wsX12_trial wsX12_isPress := goodIn_r _ [4, 5, 6, 7, 3, 8] (by decide +kernel) (by decide +kernel)
set_option maxRecDepth 20000 in
theorem gX12_trial_X12_isPress : GoodIn wsX12_trial (va_wsS RX12 347 yX12_isPress wsX12_isPress) := goodIn_app (goodIn_of _ (by decide +kernel)) ggX12_trial_X12_isPress
set_option maxRecDepth 20000 in
theorem ggX12_trial_X12_shows : GoodIn wsX12_trial wsX12_shows := goodIn_r _ [12, 13, 14, 15, 16, 3, 17, 18, 19, 20, 21, 22, 23, 24, 25, 26, 27, 28, 29, 30, 31, 32, 33, 34, 35, 36, 37, 38, 39, 40, 41, 42, 43, 44, 45, 46, 47, 48, 49, 50, 51, 52, 53, 54, 55, 56, 57, 58, 59, 60, 61, 62, 63, 64, 65, 66, 67, 68, 69, 70, 71, 72, 73, 74, 75, 76, 77, 78, 79, 80, 81, 82, 83, 84, 85, 86, 87, 88, 89, 90, 91, 92, 93, 94, 95, 96, 97, 98, 99, 100, 101, 102, 103, 104, 105, 106, 107, 108, 109, 110, 111, 112, 113, 114, 115, 116, 117, 118, 119, 120, 121, 122, 123] (by decide +kernel) (by decide +kernel)
set_option maxRecDepth 20000 in
theorem gX12_trial_X12_shows : GoodIn wsX12_trial (wsV RX12 410 RX12 yX12_shows wsX12_shows) := goodIn_app (goodIn_of _ (by decide +kernel)) ggX12_trial_X12_shows
theorem dX12_trial_0 : decode cX12_trial 0 = .ok (.iload_n 1, 1) := by decide +kernel
theorem dX12_trial_1 : decode cX12_trial 1 = .ok (.invokestatic 347, 3) := by decide +kernel
theorem dX12_trial_4 : decode cX12_trial 4 = .ok (.ifCond .eq 11, 3) := by decide +kernel
theorem dX12_trial_7 : decode cX12_trial 7 = .ok (.aload_n 0, 1) := by decide +kernel
theorem dX12_trial_8 : decode cX12_trial 8 = .ok (.iload_n 1, 1) := by decide +kernel
theorem dX12_trial_9 : decode cX12_trial 9 = .ok (.invokevirtual 410, 3) := by decide +kernel
theorem dX12_trial_12 : decode cX12_trial 12 = .ok (.goto 5, 3) := by decide +kernel
theorem dX12_trial_15 : decode cX12_trial 15 = .ok (.bipush (-2), 2) := by decide +kernel
theorem dX12_trial_17 : decode cX12_trial 17 = .ok (.ireturn, 1) := by decide +kernel
theorem dX12_show_0 : decode cX12_show 0 = .ok (.iconst 0, 1) := by decide +kernel
theorem dX12_show_1 : decode cX12_show 1 = .ok (.istore_n 1, 1) := by decide +kernel
theorem dX12_show_2 : decode cX12_show 2 = .ok (.iconst 0, 1) := by decide +kernel
theorem dX12_show_3 : decode cX12_show 3 = .ok (.istore_n 2, 1) := by decide +kernel
theorem dX12_show_4 : decode cX12_show 4 = .ok (.iload_n 2, 1) := by decide +kernel
theorem dX12_show_5 : decode cX12_show 5 = .ok (.aload_n 0, 1) := by decide +kernel
theorem dX12_show_6 : decode cX12_show 6 = .ok (.getfield 13, 3) := by decide +kernel
theorem dX12_show_9 : decode cX12_show 9 = .ok (.iconst 2, 1) := by decide +kernel
theorem dX12_show_10 : decode cX12_show 10 = .ok (.iaload, 1) := by decide +kernel
theorem dX12_show_11 : decode cX12_show 11 = .ok (.if_icmp .ge 28, 3) := by decide +kernel
theorem dX12_show_14 : decode cX12_show 14 = .ok (.aload_n 0, 1) := by decide +kernel
theorem dX12_show_15 : decode cX12_show 15 = .ok (.iload_n 2, 1) := by decide +kernel
theorem dX12_show_16 : decode cX12_show 16 = .ok (.invokevirtual 384, 3) := by decide +kernel
theorem dX12_show_19 : decode cX12_show 19 = .ok (.iconst (-1), 1) := by decide +kernel
theorem dX12_show_20 : decode cX12_show 20 = .ok (.if_icmp .eq 13, 3) := by decide +kernel
theorem dX12_show_23 : decode cX12_show 23 = .ok (.iload_n 1, 1) := by decide +kernel
theorem dX12_show_24 : decode cX12_show 24 = .ok (.aload_n 0, 1) := by decide +kernel
theorem dX12_show_25 : decode cX12_show 25 = .ok (.iload_n 2, 1) := by decide +kernel
theorem dX12_show_26 : decode cX12_show 26 = .ok (.invokevirtual 356, 3) := by decide +kernel
theorem dX12_show_29 : decode cX12_show 29 = .ok (.invokestatic 365, 3) := by decide +kernel
theorem dX12_show_32 : decode cX12_show 32 = .ok (.istore_n 1, 1) := by decide +kernel
