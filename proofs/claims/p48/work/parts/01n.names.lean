theorem dX12_livesOf_30 : decode cX12_livesOf 30 = .ok (.irem, 1) := by decide +kernel
theorem dX12_livesOf_31 : decode cX12_livesOf 31 = .ok (.iconst 5, 1) := by decide +kernel
theorem dX12_livesOf_32 : decode cX12_livesOf 32 = .ok (.if_icmp .ge 7, 3) := by decide +kernel
theorem dX12_livesOf_35 : decode cX12_livesOf 35 = .ok (.iconst 1, 1) := by decide +kernel
theorem dX12_livesOf_36 : decode cX12_livesOf 36 = .ok (.goto 4, 3) := by decide +kernel
theorem dX12_livesOf_39 : decode cX12_livesOf 39 = .ok (.iconst 0, 1) := by decide +kernel
theorem dX12_livesOf_40 : decode cX12_livesOf 40 = .ok (.istore 4, 2) := by decide +kernel
theorem dX12_livesOf_42 : decode cX12_livesOf 42 = .ok (.iconst 0, 1) := by decide +kernel
theorem dX12_livesOf_43 : decode cX12_livesOf 43 = .ok (.istore 5, 2) := by decide +kernel
theorem dX12_livesOf_45 : decode cX12_livesOf 45 = .ok (.iconst 0, 1) := by decide +kernel
theorem dX12_livesOf_46 : decode cX12_livesOf 46 = .ok (.istore 6, 2) := by decide +kernel
theorem dX12_livesOf_48 : decode cX12_livesOf 48 = .ok (.iload 6, 2) := by decide +kernel
theorem dX12_livesOf_50 : decode cX12_livesOf 50 = .ok (.aload_n 0, 1) := by decide +kernel
theorem dX12_livesOf_51 : decode cX12_livesOf 51 = .ok (.getfield 13, 3) := by decide +kernel
theorem dX12_livesOf_54 : decode cX12_livesOf 54 = .ok (.iconst 3, 1) := by decide +kernel
theorem dX12_livesOf_55 : decode cX12_livesOf 55 = .ok (.iaload, 1) := by decide +kernel
theorem dX12_livesOf_56 : decode cX12_livesOf 56 = .ok (.if_icmp .ge 43, 3) := by decide +kernel
theorem dX12_livesOf_59 : decode cX12_livesOf 59 = .ok (.iload 5, 2) := by decide +kernel
theorem dX12_livesOf_61 : decode cX12_livesOf 61 = .ok (.iload_n 3, 1) := by decide +kernel
theorem dX12_livesOf_62 : decode cX12_livesOf 62 = .ok (.iload 6, 2) := by decide +kernel
theorem dX12_livesOf_64 : decode cX12_livesOf 64 = .ok (.invokestatic 441, 3) := by decide +kernel
theorem dX12_livesOf_67 : decode cX12_livesOf 67 = .ok (.ifCond .eq 22, 3) := by decide +kernel
theorem dX12_livesOf_70 : decode cX12_livesOf 70 = .ok (.aload_n 0, 1) := by decide +kernel
theorem dX12_livesOf_71 : decode cX12_livesOf 71 = .ok (.iload 6, 2) := by decide +kernel
theorem dX12_livesOf_73 : decode cX12_livesOf 73 = .ok (.iload 4, 2) := by decide +kernel
theorem dX12_livesOf_75 : decode cX12_livesOf 75 = .ok (.ifCond .eq 7, 3) := by decide +kernel
theorem dX12_livesOf_78 : decode cX12_livesOf 78 = .ok (.iconst 2, 1) := by decide +kernel
theorem dX12_livesOf_79 : decode cX12_livesOf 79 = .ok (.goto 4, 3) := by decide +kernel
theorem dX12_livesOf_82 : decode cX12_livesOf 82 = .ok (.iconst 3, 1) := by decide +kernel
theorem dX12_livesOf_83 : decode cX12_livesOf 83 = .ok (.invokevirtual 424, 3) := by decide +kernel
theorem dX12_livesOf_86 : decode cX12_livesOf 86 = .ok (.goto 4, 3) := by decide +kernel
theorem dX12_livesOf_89 : decode cX12_livesOf 89 = .ok (.iconst 0, 1) := by decide +kernel
theorem dX12_livesOf_90 : decode cX12_livesOf 90 = .ok (.iadd, 1) := by decide +kernel
theorem dX12_livesOf_91 : decode cX12_livesOf 91 = .ok (.istore 5, 2) := by decide +kernel
theorem dX12_livesOf_93 : decode cX12_livesOf 93 = .ok (.iinc 6 1, 3) := by decide +kernel
theorem dX12_livesOf_96 : decode cX12_livesOf 96 = .ok (.goto (-48), 3) := by decide +kernel
theorem dX12_livesOf_99 : decode cX12_livesOf 99 = .ok (.iload 5, 2) := by decide +kernel
theorem dX12_livesOf_101 : decode cX12_livesOf 101 = .ok (.ireturn, 1) := by decide +kernel
set_option maxRecDepth 20000 in
theorem ggX12_lights_X12_isPipe : GoodIn wsX12_lights wsX12_isPipe := goodIn_r _ [5, 6, 7, 8, 4, 9, 44, 45, 46, 47, 48, 49, 50, 51, 52, 53, 54, 55, 56, 57, 58, 59, 60, 61, 62, 63, 64, 65, 66, 67, 68, 69, 70, 71, 72, 73, 74, 75, 76, 77] (by decide +kernel) (by decide +kernel)
set_option maxRecDepth 20000 in
theorem gX12_lights_X12_isPipe : GoodIn wsX12_lights (wsV RX12 320 RX12 yX12_isPipe wsX12_isPipe) := goodIn_app (goodIn_of _ (by decide +kernel)) ggX12_lights_X12_isPipe
set_option maxRecDepth 20000 in
theorem ggX12_lights_X12_isHour : GoodIn wsX12_lights wsX12_isHour := goodIn_r _ [13, 6, 7, 8, 4, 9, 44, 45, 46, 47, 48, 49, 50, 51, 52, 53, 54, 55, 56, 57, 58, 59, 60, 61, 62, 63, 64, 65, 66, 67, 68, 69, 70, 71, 72, 73, 74, 75, 76, 77] (by decide +kernel) (by decide +kernel)
set_option maxRecDepth 20000 in
theorem gX12_lights_X12_isHour : GoodIn wsX12_lights (wsV RX12 359 RX12 yX12_isHour wsX12_isHour) := goodIn_app (goodIn_of _ (by decide +kernel)) ggX12_lights_X12_isHour
set_option maxRecDepth 20000 in
theorem ggX12_lights_X12_lightsOf : GoodIn wsX12_lights wsX12_lightsOf := goodIn_r _ [17, 6, 18, 19, 20, 4, 21, 22, 23, 24, 25, 26, 27, 28, 29, 30, 31, 32, 33, 34, 35, 36, 37, 38, 39, 40, 41, 42, 43, 44, 45, 46, 47, 48, 49, 50, 51, 52, 53, 54, 55, 56, 57, 58, 59, 60, 61, 62, 63, 64, 65, 66, 67, 68, 69, 70, 71, 72, 73, 74, 75, 76, 77] (by decide +kernel) (by decide +kernel)
set_option maxRecDepth 20000 in
theorem gX12_lights_X12_lightsOf : GoodIn wsX12_lights (wsV RX12 433 RX12 yX12_lightsOf wsX12_lightsOf) := goodIn_app (goodIn_of _ (by decide +kernel)) ggX12_lights_X12_lightsOf
theorem dX12_lights_0 : decode cX12_lights 0 = .ok (.aload_n 0, 1) := by decide +kernel
theorem dX12_lights_1 : decode cX12_lights 1 = .ok (.iload_n 1, 1) := by decide +kernel
theorem dX12_lights_2 : decode cX12_lights 2 = .ok (.invokevirtual 320, 3) := by decide +kernel
theorem dX12_lights_5 : decode cX12_lights 5 = .ok (.ifCond .eq 20, 3) := by decide +kernel
theorem dX12_lights_8 : decode cX12_lights 8 = .ok (.aload_n 0, 1) := by decide +kernel
theorem dX12_lights_9 : decode cX12_lights 9 = .ok (.iload_n 2, 1) := by decide +kernel
theorem dX12_lights_10 : decode cX12_lights 10 = .ok (.invokevirtual 359, 3) := by decide +kernel
theorem dX12_lights_13 : decode cX12_lights 13 = .ok (.ifCond .eq 12, 3) := by decide +kernel
theorem dX12_lights_16 : decode cX12_lights 16 = .ok (.aload_n 0, 1) := by decide +kernel
theorem dX12_lights_17 : decode cX12_lights 17 = .ok (.iload_n 1, 1) := by decide +kernel
theorem dX12_lights_18 : decode cX12_lights 18 = .ok (.iload_n 2, 1) := by decide +kernel
theorem dX12_lights_19 : decode cX12_lights 19 = .ok (.invokevirtual 433, 3) := by decide +kernel
theorem dX12_lights_22 : decode cX12_lights 22 = .ok (.goto 5, 3) := by decide +kernel
theorem dX12_lights_25 : decode cX12_lights 25 = .ok (.bipush (-2), 2) := by decide +kernel
theorem dX12_lights_27 : decode cX12_lights 27 = .ok (.ireturn, 1) := by decide +kernel
set_option maxRecDepth 20000 in
theorem ggX12_taken__X12_isPipe : GoodIn wsX12_taken_ wsX12_isPipe := goodIn_r _ [5, 6, 7, 8, 4, 9, 48, 49, 50, 51, 52, 53, 54, 55, 56, 57, 58, 59, 60, 61, 62, 63, 64, 65, 66, 67, 68, 69, 70, 71, 72, 73, 74, 75, 76, 77, 78, 79, 80, 81] (by decide +kernel) (by decide +kernel)
set_option maxRecDepth 20000 in
theorem gX12_taken__X12_isPipe : GoodIn wsX12_taken_ (wsV RX12 320 RX12 yX12_isPipe wsX12_isPipe) := goodIn_app (goodIn_of _ (by decide +kernel)) ggX12_taken__X12_isPipe
set_option maxRecDepth 20000 in
theorem ggX12_taken__X12_isHour : GoodIn wsX12_taken_ wsX12_isHour := goodIn_r _ [13, 6, 7, 8, 4, 9, 48, 49, 50, 51, 52, 53, 54, 55, 56, 57, 58, 59, 60, 61, 62, 63, 64, 65, 66, 67, 68, 69, 70, 71, 72, 73, 74, 75, 76, 77, 78, 79, 80, 81] (by decide +kernel) (by decide +kernel)
set_option maxRecDepth 20000 in
theorem gX12_taken__X12_isHour : GoodIn wsX12_taken_ (wsV RX12 359 RX12 yX12_isHour wsX12_isHour) := goodIn_app (goodIn_of _ (by decide +kernel)) ggX12_taken__X12_isHour
set_option maxRecDepth 20000 in
theorem ggX12_taken__X12_takenOf : GoodIn wsX12_taken_ wsX12_takenOf := goodIn_r _ [17, 6, 18, 19, 20, 4, 21, 22, 23, 24, 25, 26, 27, 28, 29, 30, 31, 32, 33, 34, 35, 36, 37, 38, 39, 40, 41, 42, 43, 44, 45, 46, 47, 48, 49, 50, 51, 52, 53, 54, 55, 56, 57, 58, 59, 60, 61, 62, 63, 64, 65, 66, 67, 68, 69, 70, 71, 72, 73, 74, 75, 76, 77, 78, 79, 80, 81] (by decide +kernel) (by decide +kernel)
set_option maxRecDepth 20000 in
theorem gX12_taken__X12_takenOf : GoodIn wsX12_taken_ (wsV RX12 436 RX12 yX12_takenOf wsX12_takenOf) := goodIn_app (goodIn_of _ (by decide +kernel)) ggX12_taken__X12_takenOf
theorem dX12_taken__0 : decode cX12_taken_ 0 = .ok (.aload_n 0, 1) := by decide +kernel
theorem dX12_taken__1 : decode cX12_taken_ 1 = .ok (.iload_n 1, 1) := by decide +kernel
theorem dX12_taken__2 : decode cX12_taken_ 2 = .ok (.invokevirtual 320, 3) := by decide +kernel
theorem dX12_taken__5 : decode cX12_taken_ 5 = .ok (.ifCond .eq 20, 3) := by decide +kernel
theorem dX12_taken__8 : decode cX12_taken_ 8 = .ok (.aload_n 0, 1) := by decide +kernel
theorem dX12_taken__9 : decode cX12_taken_ 9 = .ok (.iload_n 2, 1) := by decide +kernel
theorem dX12_taken__10 : decode cX12_taken_ 10 = .ok (.invokevirtual 359, 3) := by decide +kernel
theorem dX12_taken__13 : decode cX12_taken_ 13 = .ok (.ifCond .eq 12, 3) := by decide +kernel
theorem dX12_taken__16 : decode cX12_taken_ 16 = .ok (.aload_n 0, 1) := by decide +kernel
theorem dX12_taken__17 : decode cX12_taken_ 17 = .ok (.iload_n 1, 1) := by decide +kernel
theorem dX12_taken__18 : decode cX12_taken_ 18 = .ok (.iload_n 2, 1) := by decide +kernel
theorem dX12_taken__19 : decode cX12_taken_ 19 = .ok (.invokevirtual 436, 3) := by decide +kernel
theorem dX12_taken__22 : decode cX12_taken_ 22 = .ok (.goto 5, 3) := by decide +kernel
theorem dX12_taken__25 : decode cX12_taken_ 25 = .ok (.bipush (-2), 2) := by decide +kernel
theorem dX12_taken__27 : decode cX12_taken_ 27 = .ok (.ireturn, 1) := by decide +kernel
set_option maxRecDepth 20000 in
theorem ggX12_lives_X12_isPipe : GoodIn wsX12_lives wsX12_isPipe := goodIn_r _ [5, 6, 7, 8, 4, 9, 57, 58, 59, 60, 61, 62, 63, 64, 65, 66, 67, 68, 69, 70, 71, 72, 73, 74, 75, 76, 77, 78, 79, 80, 81, 82, 83, 84, 85, 86, 87, 88, 89, 90] (by decide +kernel) (by decide +kernel)
set_option maxRecDepth 20000 in
theorem gX12_lives_X12_isPipe : GoodIn wsX12_lives (wsV RX12 320 RX12 yX12_isPipe wsX12_isPipe) := goodIn_app (goodIn_of _ (by decide +kernel)) ggX12_lives_X12_isPipe
set_option maxRecDepth 20000 in
theorem ggX12_lives_X12_isHour : GoodIn wsX12_lives wsX12_isHour := goodIn_r _ [13, 6, 7, 8, 4, 9, 57, 58, 59, 60, 61, 62, 63, 64, 65, 66, 67, 68, 69, 70, 71, 72, 73, 74, 75, 76, 77, 78, 79, 80, 81, 82, 83, 84, 85, 86, 87, 88, 89, 90] (by decide +kernel) (by decide +kernel)
set_option maxRecDepth 20000 in
theorem gX12_lives_X12_isHour : GoodIn wsX12_lives (wsV RX12 359 RX12 yX12_isHour wsX12_isHour) := goodIn_app (goodIn_of _ (by decide +kernel)) ggX12_lives_X12_isHour
set_option maxRecDepth 20000 in
theorem ggX12_lives_X12_livesOf : GoodIn wsX12_lives wsX12_livesOf := goodIn_r _ [17, 18, 19, 6, 20, 21, 22, 4, 23, 24, 25, 26, 27, 28, 29, 30, 31, 32, 33, 34, 35, 36, 37, 38, 39, 40, 41, 42, 43, 44, 45, 46, 47, 48, 49, 50, 51, 52, 53, 7, 8, 9, 54, 55, 56, 57, 58, 59, 60, 61, 62, 63, 64, 65, 66, 67, 68, 69, 70, 71, 72, 73, 74, 75, 76, 77, 78, 79, 80, 81, 82, 83, 84, 85, 86, 87, 88, 89, 90] (by decide +kernel) (by decide +kernel)
set_option maxRecDepth 20000 in
theorem gX12_lives_X12_livesOf : GoodIn wsX12_lives (wsV RX12 444 RX12 yX12_livesOf wsX12_livesOf) := goodIn_app (goodIn_of _ (by decide +kernel)) ggX12_lives_X12_livesOf
theorem dX12_lives_0 : decode cX12_lives 0 = .ok (.aload_n 0, 1) := by decide +kernel
theorem dX12_lives_1 : decode cX12_lives 1 = .ok (.iload_n 1, 1) := by decide +kernel
theorem dX12_lives_2 : decode cX12_lives 2 = .ok (.invokevirtual 320, 3) := by decide +kernel
theorem dX12_lives_5 : decode cX12_lives 5 = .ok (.ifCond .eq 20, 3) := by decide +kernel
theorem dX12_lives_8 : decode cX12_lives 8 = .ok (.aload_n 0, 1) := by decide +kernel
theorem dX12_lives_9 : decode cX12_lives 9 = .ok (.iload_n 2, 1) := by decide +kernel
theorem dX12_lives_10 : decode cX12_lives 10 = .ok (.invokevirtual 359, 3) := by decide +kernel
theorem dX12_lives_13 : decode cX12_lives 13 = .ok (.ifCond .eq 12, 3) := by decide +kernel
theorem dX12_lives_16 : decode cX12_lives 16 = .ok (.aload_n 0, 1) := by decide +kernel
theorem dX12_lives_17 : decode cX12_lives 17 = .ok (.iload_n 1, 1) := by decide +kernel
theorem dX12_lives_18 : decode cX12_lives 18 = .ok (.iload_n 2, 1) := by decide +kernel
theorem dX12_lives_19 : decode cX12_lives 19 = .ok (.invokevirtual 444, 3) := by decide +kernel
theorem dX12_lives_22 : decode cX12_lives 22 = .ok (.goto 5, 3) := by decide +kernel
theorem dX12_lives_25 : decode cX12_lives 25 = .ok (.bipush (-2), 2) := by decide +kernel
theorem dX12_lives_27 : decode cX12_lives 27 = .ok (.ireturn, 1) := by decide +kernel
set_option maxRecDepth 20000 in
theorem ggX12_when_X12_isPipe : GoodIn wsX12_when wsX12_isPipe := goodIn_r _ [11, 2, 12, 13, 10, 14, 61, 62, 63, 64, 65, 66, 67, 68, 69, 70, 71, 72, 73, 74, 75, 76, 77, 78, 79, 80, 81, 82, 83, 84, 85, 86, 87, 88, 89, 90, 91, 92, 93, 94] (by decide +kernel) (by decide +kernel)
set_option maxRecDepth 20000 in
theorem gX12_when_X12_isPipe : GoodIn wsX12_when (wsV RX12 320 RX12 yX12_isPipe wsX12_isPipe) := goodIn_app (goodIn_of _ (by decide +kernel)) ggX12_when_X12_isPipe
set_option maxRecDepth 20000 in
theorem ggX12_when_X12_isHour : GoodIn wsX12_when wsX12_isHour := goodIn_r _ [18, 2, 12, 13, 10, 14, 61, 62, 63, 64, 65, 66, 67, 68, 69, 70, 71, 72, 73, 74, 75, 76, 77, 78, 79, 80, 81, 82, 83, 84, 85, 86, 87, 88, 89, 90, 91, 92, 93, 94] (by decide +kernel) (by decide +kernel)
set_option maxRecDepth 20000 in
theorem gX12_when_X12_isHour : GoodIn wsX12_when (wsV RX12 359 RX12 yX12_isHour wsX12_isHour) := goodIn_app (goodIn_of _ (by decide +kernel)) ggX12_when_X12_isHour
set_option maxRecDepth 20000 in
theorem ggX12_when_X12_in : GoodIn wsX12_when wsX12_in := goodIn_r _ [14] (by decide +kernel) (by decide +kernel)
set_option maxRecDepth 20000 in
theorem gX12_when_X12_in : GoodIn wsX12_when (va_wsS RX12 76 yX12_in wsX12_in) := goodIn_app (goodIn_of _ (by decide +kernel)) ggX12_when_X12_in
set_option maxRecDepth 20000 in
theorem ggX12_when_X12_livesOf : GoodIn wsX12_when wsX12_livesOf := goodIn_r _ [22, 23, 24, 2, 25, 26, 27, 10, 28, 29, 30, 31, 32, 33, 34, 35, 36, 37, 38, 39, 40, 41, 42, 43, 44, 45, 46, 47, 48, 49, 50, 51, 52, 53, 54, 55, 56, 5, 57, 12, 13, 14, 58, 59, 60, 61, 62, 63, 64, 65, 66, 67, 68, 69, 70, 71, 72, 73, 74, 75, 76, 77, 78, 79, 80, 81, 82, 83, 84, 85, 86, 87, 88, 89, 90, 91, 92, 93, 94] (by decide +kernel) (by decide +kernel)
set_option maxRecDepth 20000 in
theorem gX12_when_X12_livesOf : GoodIn wsX12_when (wsV RX12 444 RX12 yX12_livesOf wsX12_livesOf) := goodIn_app (goodIn_of _ (by decide +kernel)) ggX12_when_X12_livesOf
theorem dX12_when_0 : decode cX12_when 0 = .ok (.aload_n 0, 1) := by decide +kernel
theorem dX12_when_1 : decode cX12_when 1 = .ok (.iload_n 1, 1) := by decide +kernel
theorem dX12_when_2 : decode cX12_when 2 = .ok (.invokevirtual 320, 3) := by decide +kernel
theorem dX12_when_5 : decode cX12_when 5 = .ok (.ifCond .eq 23, 3) := by decide +kernel
theorem dX12_when_8 : decode cX12_when 8 = .ok (.aload_n 0, 1) := by decide +kernel
theorem dX12_when_9 : decode cX12_when 9 = .ok (.iload_n 2, 1) := by decide +kernel
theorem dX12_when_10 : decode cX12_when 10 = .ok (.invokevirtual 359, 3) := by decide +kernel
theorem dX12_when_13 : decode cX12_when 13 = .ok (.ifCond .eq 15, 3) := by decide +kernel
theorem dX12_when_16 : decode cX12_when 16 = .ok (.iload_n 3, 1) := by decide +kernel
theorem dX12_when_17 : decode cX12_when 17 = .ok (.i2l, 1) := by decide +kernel
theorem dX12_when_18 : decode cX12_when 18 = .ok (.lconst 1, 1) := by decide +kernel
theorem dX12_when_19 : decode cX12_when 19 = .ok (.ldc2_w 447, 3) := by decide +kernel
theorem dX12_when_22 : decode cX12_when 22 = .ok (.invokestatic 76, 3) := by decide +kernel
theorem dX12_when_25 : decode cX12_when 25 = .ok (.ifCond .ne 6, 3) := by decide +kernel
theorem dX12_when_28 : decode cX12_when 28 = .ok (.bipush (-2), 2) := by decide +kernel
theorem dX12_when_30 : decode cX12_when 30 = .ok (.ireturn, 1) := by decide +kernel
theorem dX12_when_31 : decode cX12_when 31 = .ok (.iload_n 2, 1) := by decide +kernel
theorem dX12_when_32 : decode cX12_when 32 = .ok (.istore 4, 2) := by decide +kernel
theorem dX12_when_34 : decode cX12_when 34 = .ok (.aload_n 0, 1) := by decide +kernel
theorem dX12_when_35 : decode cX12_when 35 = .ok (.iload_n 1, 1) := by decide +kernel
theorem dX12_when_36 : decode cX12_when 36 = .ok (.iload_n 2, 1) := by decide +kernel
theorem dX12_when_37 : decode cX12_when 37 = .ok (.invokevirtual 444, 3) := by decide +kernel
theorem dX12_when_40 : decode cX12_when 40 = .ok (.istore 5, 2) := by decide +kernel
theorem dX12_when_42 : decode cX12_when 42 = .ok (.iload_n 2, 1) := by decide +kernel
theorem dX12_when_43 : decode cX12_when 43 = .ok (.iconst 1, 1) := by decide +kernel
theorem dX12_when_44 : decode cX12_when 44 = .ok (.iadd, 1) := by decide +kernel
theorem dX12_when_45 : decode cX12_when 45 = .ok (.istore 6, 2) := by decide +kernel
theorem dX12_when_47 : decode cX12_when 47 = .ok (.iload 6, 2) := by decide +kernel
theorem dX12_when_49 : decode cX12_when 49 = .ok (.aload_n 0, 1) := by decide +kernel
theorem dX12_when_50 : decode cX12_when 50 = .ok (.getfield 13, 3) := by decide +kernel
theorem dX12_when_53 : decode cX12_when 53 = .ok (.bipush 6, 2) := by decide +kernel
theorem dX12_when_55 : decode cX12_when 55 = .ok (.iaload, 1) := by decide +kernel
theorem dX12_when_56 : decode cX12_when 56 = .ok (.iload_n 2, 1) := by decide +kernel
theorem dX12_when_57 : decode cX12_when 57 = .ok (.iload_n 3, 1) := by decide +kernel
theorem dX12_when_58 : decode cX12_when 58 = .ok (.iadd, 1) := by decide +kernel
theorem dX12_when_59 : decode cX12_when 59 = .ok (.invokestatic 113, 3) := by decide +kernel
theorem dX12_when_62 : decode cX12_when 62 = .ok (.if_icmp .ge 36, 3) := by decide +kernel
theorem dX12_when_65 : decode cX12_when 65 = .ok (.aload_n 0, 1) := by decide +kernel
theorem dX12_when_66 : decode cX12_when 66 = .ok (.iload_n 1, 1) := by decide +kernel
theorem dX12_when_67 : decode cX12_when 67 = .ok (.iload 6, 2) := by decide +kernel
theorem dX12_when_69 : decode cX12_when 69 = .ok (.invokevirtual 444, 3) := by decide +kernel
theorem dX12_when_72 : decode cX12_when 72 = .ok (.istore 7, 2) := by decide +kernel
theorem dX12_when_74 : decode cX12_when 74 = .ok (.iload 7, 2) := by decide +kernel
theorem dX12_when_76 : decode cX12_when 76 = .ok (.iload 5, 2) := by decide +kernel
theorem dX12_when_78 : decode cX12_when 78 = .ok (.if_icmp .lt 6, 3) := by decide +kernel
theorem dX12_when_81 : decode cX12_when 81 = .ok (.goto 11, 3) := by decide +kernel
theorem dX12_when_84 : decode cX12_when 84 = .ok (.iload 6, 2) := by decide +kernel
theorem dX12_when_86 : decode cX12_when 86 = .ok (.istore 4, 2) := by decide +kernel
theorem dX12_when_88 : decode cX12_when 88 = .ok (.iload 7, 2) := by decide +kernel
theorem dX12_when_90 : decode cX12_when 90 = .ok (.istore 5, 2) := by decide +kernel
theorem dX12_when_92 : decode cX12_when 92 = .ok (.iinc 6 1, 3) := by decide +kernel
theorem dX12_when_95 : decode cX12_when 95 = .ok (.goto (-48), 3) := by decide +kernel
theorem dX12_when_98 : decode cX12_when 98 = .ok (.iload 4, 2) := by decide +kernel
theorem dX12_when_100 : decode cX12_when 100 = .ok (.ireturn, 1) := by decide +kernel
set_option maxRecDepth 20000 in
theorem ggX12_risk_X12_isPipe : GoodIn wsX12_risk wsX12_isPipe := goodIn_r _ [11, 2, 12, 13, 10, 14, 61, 62, 63, 64, 65, 66, 67, 68, 69, 70, 71, 72, 73, 74, 75, 76, 77, 78, 79, 80, 81, 82, 83, 84, 85, 86, 87, 88, 89, 90, 91, 92, 93, 94] (by decide +kernel) (by decide +kernel)
set_option maxRecDepth 20000 in
theorem gX12_risk_X12_isPipe : GoodIn wsX12_risk (wsV RX12 320 RX12 yX12_isPipe wsX12_isPipe) := goodIn_app (goodIn_of _ (by decide +kernel)) ggX12_risk_X12_isPipe
set_option maxRecDepth 20000 in
theorem ggX12_risk_X12_isHour : GoodIn wsX12_risk wsX12_isHour := goodIn_r _ [18, 2, 12, 13, 10, 14, 61, 62, 63, 64, 65, 66, 67, 68, 69, 70, 71, 72, 73, 74, 75, 76, 77, 78, 79, 80, 81, 82, 83, 84, 85, 86, 87, 88, 89, 90, 91, 92, 93, 94] (by decide +kernel) (by decide +kernel)
set_option maxRecDepth 20000 in
theorem gX12_risk_X12_isHour : GoodIn wsX12_risk (wsV RX12 359 RX12 yX12_isHour wsX12_isHour) := goodIn_app (goodIn_of _ (by decide +kernel)) ggX12_risk_X12_isHour
set_option maxRecDepth 20000 in
theorem ggX12_risk_X12_in : GoodIn wsX12_risk wsX12_in := goodIn_r _ [14] (by decide +kernel) (by decide +kernel)
set_option maxRecDepth 20000 in
theorem gX12_risk_X12_in : GoodIn wsX12_risk (va_wsS RX12 76 yX12_in wsX12_in) := goodIn_app (goodIn_of _ (by decide +kernel)) ggX12_risk_X12_in
set_option maxRecDepth 20000 in
theorem ggX12_risk_X12_livesOf : GoodIn wsX12_risk wsX12_livesOf := goodIn_r _ [22, 23, 24, 2, 25, 26, 27, 10, 28, 29, 30, 31, 32, 33, 34, 35, 36, 37, 38, 39, 40, 41, 42, 43, 44, 45, 46, 47, 48, 49, 50, 51, 52, 53, 54, 55, 56, 5, 57, 12, 13, 14, 58, 59, 60, 61, 62, 63, 64, 65, 66, 67, 68, 69, 70, 71, 72, 73, 74, 75, 76, 77, 78, 79, 80, 81, 82, 83, 84, 85, 86, 87, 88, 89, 90, 91, 92, 93, 94] (by decide +kernel) (by decide +kernel)
set_option maxRecDepth 20000 in
theorem gX12_risk_X12_livesOf : GoodIn wsX12_risk (wsV RX12 444 RX12 yX12_livesOf wsX12_livesOf) := goodIn_app (goodIn_of _ (by decide +kernel)) ggX12_risk_X12_livesOf
theorem dX12_risk_0 : decode cX12_risk 0 = .ok (.aload_n 0, 1) := by decide +kernel
theorem dX12_risk_1 : decode cX12_risk 1 = .ok (.iload_n 1, 1) := by decide +kernel
theorem dX12_risk_2 : decode cX12_risk 2 = .ok (.invokevirtual 320, 3) := by decide +kernel
theorem dX12_risk_5 : decode cX12_risk 5 = .ok (.ifCond .eq 23, 3) := by decide +kernel
theorem dX12_risk_8 : decode cX12_risk 8 = .ok (.aload_n 0, 1) := by decide +kernel
theorem dX12_risk_9 : decode cX12_risk 9 = .ok (.iload_n 2, 1) := by decide +kernel
theorem dX12_risk_10 : decode cX12_risk 10 = .ok (.invokevirtual 359, 3) := by decide +kernel
theorem dX12_risk_13 : decode cX12_risk 13 = .ok (.ifCond .eq 15, 3) := by decide +kernel
theorem dX12_risk_16 : decode cX12_risk 16 = .ok (.iload_n 3, 1) := by decide +kernel
theorem dX12_risk_17 : decode cX12_risk 17 = .ok (.i2l, 1) := by decide +kernel
theorem dX12_risk_18 : decode cX12_risk 18 = .ok (.lconst 1, 1) := by decide +kernel
theorem dX12_risk_19 : decode cX12_risk 19 = .ok (.ldc2_w 447, 3) := by decide +kernel
theorem dX12_risk_22 : decode cX12_risk 22 = .ok (.invokestatic 76, 3) := by decide +kernel
theorem dX12_risk_25 : decode cX12_risk 25 = .ok (.ifCond .ne 6, 3) := by decide +kernel
theorem dX12_risk_28 : decode cX12_risk 28 = .ok (.bipush (-2), 2) := by decide +kernel
theorem dX12_risk_30 : decode cX12_risk 30 = .ok (.ireturn, 1) := by decide +kernel
theorem dX12_risk_31 : decode cX12_risk 31 = .ok (.iconst 0, 1) := by decide +kernel
theorem dX12_risk_32 : decode cX12_risk 32 = .ok (.istore 4, 2) := by decide +kernel
theorem dX12_risk_34 : decode cX12_risk 34 = .ok (.iload_n 2, 1) := by decide +kernel
theorem dX12_risk_35 : decode cX12_risk 35 = .ok (.istore 5, 2) := by decide +kernel
theorem dX12_risk_37 : decode cX12_risk 37 = .ok (.iload 5, 2) := by decide +kernel
theorem dX12_risk_39 : decode cX12_risk 39 = .ok (.aload_n 0, 1) := by decide +kernel
theorem dX12_risk_40 : decode cX12_risk 40 = .ok (.getfield 13, 3) := by decide +kernel
theorem dX12_risk_43 : decode cX12_risk 43 = .ok (.bipush 6, 2) := by decide +kernel
theorem dX12_risk_45 : decode cX12_risk 45 = .ok (.iaload, 1) := by decide +kernel
theorem dX12_risk_46 : decode cX12_risk 46 = .ok (.iload_n 2, 1) := by decide +kernel
theorem dX12_risk_47 : decode cX12_risk 47 = .ok (.iload_n 3, 1) := by decide +kernel
theorem dX12_risk_48 : decode cX12_risk 48 = .ok (.iadd, 1) := by decide +kernel
theorem dX12_risk_49 : decode cX12_risk 49 = .ok (.invokestatic 113, 3) := by decide +kernel
theorem dX12_risk_52 : decode cX12_risk 52 = .ok (.if_icmp .ge 21, 3) := by decide +kernel
theorem dX12_risk_55 : decode cX12_risk 55 = .ok (.iload 4, 2) := by decide +kernel
theorem dX12_risk_57 : decode cX12_risk 57 = .ok (.aload_n 0, 1) := by decide +kernel
theorem dX12_risk_58 : decode cX12_risk 58 = .ok (.iload_n 1, 1) := by decide +kernel
theorem dX12_risk_59 : decode cX12_risk 59 = .ok (.iload 5, 2) := by decide +kernel
theorem dX12_risk_61 : decode cX12_risk 61 = .ok (.invokevirtual 444, 3) := by decide +kernel
theorem dX12_risk_64 : decode cX12_risk 64 = .ok (.iadd, 1) := by decide +kernel
theorem dX12_risk_65 : decode cX12_risk 65 = .ok (.istore 4, 2) := by decide +kernel
theorem dX12_risk_67 : decode cX12_risk 67 = .ok (.iinc 5 1, 3) := by decide +kernel
theorem dX12_risk_70 : decode cX12_risk 70 = .ok (.goto (-33), 3) := by decide +kernel
theorem dX12_risk_73 : decode cX12_risk 73 = .ok (.iload 4, 2) := by decide +kernel
theorem dX12_risk_75 : decode cX12_risk 75 = .ok (.ireturn, 1) := by decide +kernel
set_option maxRecDepth 20000 in
theorem ggX12_safest_X12_isPipe : GoodIn wsX12_safest wsX12_isPipe := goodIn_r _ [9, 1, 10, 11, 8, 12, 57, 58, 59, 60, 61, 62, 63, 64, 65, 66, 67, 68, 69, 70, 71, 72, 73, 74, 75, 76, 77, 78, 79, 80, 81, 82, 83, 84, 85, 86, 87, 88, 89, 90] (by decide +kernel) (by decide +kernel)
set_option maxRecDepth 20000 in
theorem gX12_safest_X12_isPipe : GoodIn wsX12_safest (wsV RX12 320 RX12 yX12_isPipe wsX12_isPipe) := goodIn_app (goodIn_of _ (by decide +kernel)) ggX12_safest_X12_isPipe
set_option maxRecDepth 20000 in
theorem ggX12_safest_X12_isHour : GoodIn wsX12_safest wsX12_isHour := goodIn_r _ [16, 1, 10, 11, 8, 12, 57, 58, 59, 60, 61, 62, 63, 64, 65, 66, 67, 68, 69, 70, 71, 72, 73, 74, 75, 76, 77, 78, 79, 80, 81, 82, 83, 84, 85, 86, 87, 88, 89, 90] (by decide +kernel) (by decide +kernel)
set_option maxRecDepth 20000 in
theorem gX12_safest_X12_isHour : GoodIn wsX12_safest (wsV RX12 359 RX12 yX12_isHour wsX12_isHour) := goodIn_app (goodIn_of _ (by decide +kernel)) ggX12_safest_X12_isHour
set_option maxRecDepth 20000 in
theorem ggX12_safest_X12_in : GoodIn wsX12_safest wsX12_in := goodIn_r _ [12] (by decide +kernel) (by decide +kernel)
set_option maxRecDepth 20000 in
theorem gX12_safest_X12_in : GoodIn wsX12_safest (va_wsS RX12 76 yX12_in wsX12_in) := goodIn_app (goodIn_of _ (by decide +kernel)) ggX12_safest_X12_in
set_option maxRecDepth 20000 in
theorem ggX12_safest_X12_livesOf : GoodIn wsX12_safest wsX12_livesOf := goodIn_r _ [20, 21, 22, 1, 23, 24, 25, 8, 26, 27, 28, 29, 30, 31, 32, 33, 34, 35, 36, 37, 38, 39, 40, 41, 42, 43, 44, 45, 46, 47, 48, 49, 2, 3, 4, 50, 51, 52, 53, 10, 11, 12, 54, 55, 56, 57, 58, 59, 60, 61, 62, 63, 64, 65, 66, 67, 68, 69, 70, 71, 72, 73, 74, 75, 76, 77, 78, 79, 80, 81, 82, 83, 84, 85, 86, 87, 88, 89, 90] (by decide +kernel) (by decide +kernel)
set_option maxRecDepth 20000 in
theorem gX12_safest_X12_livesOf : GoodIn wsX12_safest (wsV RX12 444 RX12 yX12_livesOf wsX12_livesOf) := goodIn_app (goodIn_of _ (by decide +kernel)) ggX12_safest_X12_livesOf
theorem dX12_safest_0 : decode cX12_safest 0 = .ok (.aload_n 0, 1) := by decide +kernel
theorem dX12_safest_1 : decode cX12_safest 1 = .ok (.iload_n 1, 1) := by decide +kernel
theorem dX12_safest_2 : decode cX12_safest 2 = .ok (.invokevirtual 320, 3) := by decide +kernel
theorem dX12_safest_5 : decode cX12_safest 5 = .ok (.ifCond .eq 29, 3) := by decide +kernel
theorem dX12_safest_8 : decode cX12_safest 8 = .ok (.aload_n 0, 1) := by decide +kernel
theorem dX12_safest_9 : decode cX12_safest 9 = .ok (.iload_n 2, 1) := by decide +kernel
theorem dX12_safest_10 : decode cX12_safest 10 = .ok (.invokevirtual 359, 3) := by decide +kernel
theorem dX12_safest_13 : decode cX12_safest 13 = .ok (.ifCond .eq 21, 3) := by decide +kernel
theorem dX12_safest_16 : decode cX12_safest 16 = .ok (.iload_n 3, 1) := by decide +kernel
theorem dX12_safest_17 : decode cX12_safest 17 = .ok (.i2l, 1) := by decide +kernel
theorem dX12_safest_18 : decode cX12_safest 18 = .ok (.lconst 0, 1) := by decide +kernel
theorem dX12_safest_19 : decode cX12_safest 19 = .ok (.aload_n 0, 1) := by decide +kernel
theorem dX12_safest_20 : decode cX12_safest 20 = .ok (.getfield 13, 3) := by decide +kernel
theorem dX12_safest_23 : decode cX12_safest 23 = .ok (.iconst 3, 1) := by decide +kernel
theorem dX12_safest_24 : decode cX12_safest 24 = .ok (.iaload, 1) := by decide +kernel
theorem dX12_safest_25 : decode cX12_safest 25 = .ok (.iconst 1, 1) := by decide +kernel
theorem dX12_safest_26 : decode cX12_safest 26 = .ok (.isub, 1) := by decide +kernel
theorem dX12_safest_27 : decode cX12_safest 27 = .ok (.i2l, 1) := by decide +kernel
theorem dX12_safest_28 : decode cX12_safest 28 = .ok (.invokestatic 76, 3) := by decide +kernel
theorem dX12_safest_31 : decode cX12_safest 31 = .ok (.ifCond .ne 6, 3) := by decide +kernel
theorem dX12_safest_34 : decode cX12_safest 34 = .ok (.bipush (-2), 2) := by decide +kernel
theorem dX12_safest_36 : decode cX12_safest 36 = .ok (.ireturn, 1) := by decide +kernel
theorem dX12_safest_37 : decode cX12_safest 37 = .ok (.iconst (-1), 1) := by decide +kernel
theorem dX12_safest_38 : decode cX12_safest 38 = .ok (.istore 4, 2) := by decide +kernel
theorem dX12_safest_40 : decode cX12_safest 40 = .ok (.iconst 0, 1) := by decide +kernel
theorem dX12_safest_41 : decode cX12_safest 41 = .ok (.istore 5, 2) := by decide +kernel
theorem dX12_safest_43 : decode cX12_safest 43 = .ok (.aload_n 0, 1) := by decide +kernel
theorem dX12_safest_44 : decode cX12_safest 44 = .ok (.iload_n 3, 1) := by decide +kernel
theorem dX12_safest_45 : decode cX12_safest 45 = .ok (.putfield 58, 3) := by decide +kernel
theorem dX12_safest_48 : decode cX12_safest 48 = .ok (.aload_n 0, 1) := by decide +kernel
theorem dX12_safest_49 : decode cX12_safest 49 = .ok (.iconst 0, 1) := by decide +kernel
theorem dX12_safest_50 : decode cX12_safest 50 = .ok (.putfield 421, 3) := by decide +kernel
theorem dX12_safest_53 : decode cX12_safest 53 = .ok (.aload_n 0, 1) := by decide +kernel
theorem dX12_safest_54 : decode cX12_safest 54 = .ok (.getfield 421, 3) := by decide +kernel
theorem dX12_safest_57 : decode cX12_safest 57 = .ok (.sipush 900, 3) := by decide +kernel
theorem dX12_safest_60 : decode cX12_safest 60 = .ok (.if_icmp .gt 89, 3) := by decide +kernel
theorem dX12_safest_63 : decode cX12_safest 63 = .ok (.aload_n 0, 1) := by decide +kernel
theorem dX12_safest_64 : decode cX12_safest 64 = .ok (.iconst 0, 1) := by decide +kernel
theorem dX12_safest_65 : decode cX12_safest 65 = .ok (.putfield 427, 3) := by decide +kernel
theorem dX12_safest_68 : decode cX12_safest 68 = .ok (.aload_n 0, 1) := by decide +kernel
theorem dX12_safest_69 : decode cX12_safest 69 = .ok (.getfield 427, 3) := by decide +kernel
theorem dX12_safest_72 : decode cX12_safest 72 = .ok (.sipush 500, 3) := by decide +kernel
theorem dX12_safest_75 : decode cX12_safest 75 = .ok (.if_icmp .gt 60, 3) := by decide +kernel
theorem dX12_safest_78 : decode cX12_safest 78 = .ok (.aload_n 0, 1) := by decide +kernel
theorem dX12_safest_79 : decode cX12_safest 79 = .ok (.iload_n 1, 1) := by decide +kernel
theorem dX12_safest_80 : decode cX12_safest 80 = .ok (.iload_n 2, 1) := by decide +kernel
theorem dX12_safest_81 : decode cX12_safest 81 = .ok (.invokevirtual 444, 3) := by decide +kernel
theorem dX12_safest_84 : decode cX12_safest 84 = .ok (.istore 6, 2) := by decide +kernel
theorem dX12_safest_86 : decode cX12_safest 86 = .ok (.iload 4, 2) := by decide +kernel
theorem dX12_safest_88 : decode cX12_safest 88 = .ok (.iconst (-1), 1) := by decide +kernel
theorem dX12_safest_89 : decode cX12_safest 89 = .ok (.if_icmp .eq 13, 3) := by decide +kernel
theorem dX12_safest_92 : decode cX12_safest 92 = .ok (.iload 6, 2) := by decide +kernel
theorem dX12_safest_94 : decode cX12_safest 94 = .ok (.iload 5, 2) := by decide +kernel
theorem dX12_safest_96 : decode cX12_safest 96 = .ok (.if_icmp .lt 6, 3) := by decide +kernel
theorem dX12_safest_99 : decode cX12_safest 99 = .ok (.goto 22, 3) := by decide +kernel
theorem dX12_safest_102 : decode cX12_safest 102 = .ok (.sipush 1000, 3) := by decide +kernel
theorem dX12_safest_105 : decode cX12_safest 105 = .ok (.aload_n 0, 1) := by decide +kernel
theorem dX12_safest_106 : decode cX12_safest 106 = .ok (.getfield 421, 3) := by decide +kernel
theorem dX12_safest_109 : decode cX12_safest 109 = .ok (.imul, 1) := by decide +kernel
theorem dX12_safest_110 : decode cX12_safest 110 = .ok (.aload_n 0, 1) := by decide +kernel
theorem dX12_safest_111 : decode cX12_safest 111 = .ok (.getfield 427, 3) := by decide +kernel
theorem dX12_safest_114 : decode cX12_safest 114 = .ok (.iadd, 1) := by decide +kernel
theorem dX12_safest_115 : decode cX12_safest 115 = .ok (.istore 4, 2) := by decide +kernel
theorem dX12_safest_117 : decode cX12_safest 117 = .ok (.iload 6, 2) := by decide +kernel
theorem dX12_safest_119 : decode cX12_safest 119 = .ok (.istore 5, 2) := by decide +kernel
theorem dX12_safest_121 : decode cX12_safest 121 = .ok (.aload_n 0, 1) := by decide +kernel
theorem dX12_safest_122 : decode cX12_safest 122 = .ok (.dup, 1) := by decide +kernel
theorem dX12_safest_123 : decode cX12_safest 123 = .ok (.getfield 427, 3) := by decide +kernel
theorem dX12_safest_126 : decode cX12_safest 126 = .ok (.bipush 100, 2) := by decide +kernel
theorem dX12_safest_128 : decode cX12_safest 128 = .ok (.iadd, 1) := by decide +kernel
theorem dX12_safest_129 : decode cX12_safest 129 = .ok (.putfield 427, 3) := by decide +kernel
theorem dX12_safest_132 : decode cX12_safest 132 = .ok (.goto (-64), 3) := by decide +kernel
theorem dX12_safest_135 : decode cX12_safest 135 = .ok (.aload_n 0, 1) := by decide +kernel
theorem dX12_safest_136 : decode cX12_safest 136 = .ok (.dup, 1) := by decide +kernel
theorem dX12_safest_137 : decode cX12_safest 137 = .ok (.getfield 421, 3) := by decide +kernel
theorem dX12_safest_140 : decode cX12_safest 140 = .ok (.bipush 100, 2) := by decide +kernel
theorem dX12_safest_142 : decode cX12_safest 142 = .ok (.iadd, 1) := by decide +kernel
theorem dX12_safest_143 : decode cX12_safest 143 = .ok (.putfield 421, 3) := by decide +kernel
theorem dX12_safest_146 : decode cX12_safest 146 = .ok (.goto (-93), 3) := by decide +kernel
theorem dX12_safest_149 : decode cX12_safest 149 = .ok (.aload_n 0, 1) := by decide +kernel
theorem dX12_safest_150 : decode cX12_safest 150 = .ok (.iconst (-1), 1) := by decide +kernel
theorem dX12_safest_151 : decode cX12_safest 151 = .ok (.putfield 58, 3) := by decide +kernel
theorem dX12_safest_154 : decode cX12_safest 154 = .ok (.iload 4, 2) := by decide +kernel
theorem dX12_safest_156 : decode cX12_safest 156 = .ok (.ireturn, 1) := by decide +kernel
set_option maxRecDepth 20000 in
theorem ggX12_moved_X12_isPipe : GoodIn wsX12_moved wsX12_isPipe := goodIn_r _ [12, 1, 13, 14, 11, 15, 60, 61, 62, 63, 64, 65, 66, 67, 68, 69, 70, 71, 72, 73, 74, 75, 76, 77, 78, 79, 80, 81, 82, 83, 84, 85, 86, 87, 88, 89, 90, 91, 92, 93] (by decide +kernel) (by decide +kernel)
set_option maxRecDepth 20000 in
theorem gX12_moved_X12_isPipe : GoodIn wsX12_moved (wsV RX12 320 RX12 yX12_isPipe wsX12_isPipe) := goodIn_app (goodIn_of _ (by decide +kernel)) ggX12_moved_X12_isPipe
set_option maxRecDepth 20000 in
theorem ggX12_moved_X12_isHour : GoodIn wsX12_moved wsX12_isHour := goodIn_r _ [19, 1, 13, 14, 11, 15, 60, 61, 62, 63, 64, 65, 66, 67, 68, 69, 70, 71, 72, 73, 74, 75, 76, 77, 78, 79, 80, 81, 82, 83, 84, 85, 86, 87, 88, 89, 90, 91, 92, 93] (by decide +kernel) (by decide +kernel)
set_option maxRecDepth 20000 in
theorem gX12_moved_X12_isHour : GoodIn wsX12_moved (wsV RX12 359 RX12 yX12_isHour wsX12_isHour) := goodIn_app (goodIn_of _ (by decide +kernel)) ggX12_moved_X12_isHour
set_option maxRecDepth 20000 in
theorem ggX12_moved_X12_in : GoodIn wsX12_moved wsX12_in := goodIn_r _ [15] (by decide +kernel) (by decide +kernel)
set_option maxRecDepth 20000 in
theorem gX12_moved_X12_in : GoodIn wsX12_moved (va_wsS RX12 76 yX12_in wsX12_in) := goodIn_app (goodIn_of _ (by decide +kernel)) ggX12_moved_X12_in
set_option maxRecDepth 20000 in
theorem ggX12_moved_X12_livesOf : GoodIn wsX12_moved wsX12_livesOf := goodIn_r _ [23, 24, 25, 1, 26, 27, 28, 11, 29, 30, 31, 32, 33, 34, 35, 36, 37, 38, 39, 40, 41, 42, 43, 44, 45, 46, 47, 48, 49, 50, 51, 52, 5, 6, 7, 53, 54, 55, 56, 13, 14, 15, 57, 58, 59, 60, 61, 62, 63, 64, 65, 66, 67, 68, 69, 70, 71, 72, 73, 74, 75, 76, 77, 78, 79, 80, 81, 82, 83, 84, 85, 86, 87, 88, 89, 90, 91, 92, 93] (by decide +kernel) (by decide +kernel)
set_option maxRecDepth 20000 in
theorem gX12_moved_X12_livesOf : GoodIn wsX12_moved (wsV RX12 444 RX12 yX12_livesOf wsX12_livesOf) := goodIn_app (goodIn_of _ (by decide +kernel)) ggX12_moved_X12_livesOf
theorem dX12_moved_0 : decode cX12_moved 0 = .ok (.aload_n 0, 1) := by decide +kernel
theorem dX12_moved_1 : decode cX12_moved 1 = .ok (.iload_n 1, 1) := by decide +kernel
theorem dX12_moved_2 : decode cX12_moved 2 = .ok (.invokevirtual 320, 3) := by decide +kernel
theorem dX12_moved_5 : decode cX12_moved 5 = .ok (.ifCond .eq 59, 3) := by decide +kernel
theorem dX12_moved_8 : decode cX12_moved 8 = .ok (.aload_n 0, 1) := by decide +kernel
theorem dX12_moved_9 : decode cX12_moved 9 = .ok (.iload_n 2, 1) := by decide +kernel
theorem dX12_moved_10 : decode cX12_moved 10 = .ok (.invokevirtual 359, 3) := by decide +kernel
theorem dX12_moved_13 : decode cX12_moved 13 = .ok (.ifCond .eq 51, 3) := by decide +kernel
theorem dX12_moved_16 : decode cX12_moved 16 = .ok (.iload_n 3, 1) := by decide +kernel
theorem dX12_moved_17 : decode cX12_moved 17 = .ok (.i2l, 1) := by decide +kernel
theorem dX12_moved_18 : decode cX12_moved 18 = .ok (.lconst 0, 1) := by decide +kernel
theorem dX12_moved_19 : decode cX12_moved 19 = .ok (.aload_n 0, 1) := by decide +kernel
theorem dX12_moved_20 : decode cX12_moved 20 = .ok (.getfield 13, 3) := by decide +kernel
theorem dX12_moved_23 : decode cX12_moved 23 = .ok (.iconst 3, 1) := by decide +kernel
theorem dX12_moved_24 : decode cX12_moved 24 = .ok (.iaload, 1) := by decide +kernel
theorem dX12_moved_25 : decode cX12_moved 25 = .ok (.iconst 1, 1) := by decide +kernel
theorem dX12_moved_26 : decode cX12_moved 26 = .ok (.isub, 1) := by decide +kernel
theorem dX12_moved_27 : decode cX12_moved 27 = .ok (.i2l, 1) := by decide +kernel
theorem dX12_moved_28 : decode cX12_moved 28 = .ok (.invokestatic 76, 3) := by decide +kernel
theorem dX12_moved_31 : decode cX12_moved 31 = .ok (.ifCond .eq 33, 3) := by decide +kernel
theorem dX12_moved_34 : decode cX12_moved 34 = .ok (.iload 4, 2) := by decide +kernel
theorem dX12_moved_36 : decode cX12_moved 36 = .ok (.i2l, 1) := by decide +kernel
theorem dX12_moved_37 : decode cX12_moved 37 = .ok (.ldc2_w 449, 3) := by decide +kernel
theorem dX12_moved_40 : decode cX12_moved 40 = .ok (.ldc2_w 80, 3) := by decide +kernel
theorem dX12_moved_43 : decode cX12_moved 43 = .ok (.invokestatic 76, 3) := by decide +kernel
theorem dX12_moved_46 : decode cX12_moved 46 = .ok (.ifCond .eq 18, 3) := by decide +kernel
theorem dX12_moved_49 : decode cX12_moved 49 = .ok (.iload 5, 2) := by decide +kernel
theorem dX12_moved_51 : decode cX12_moved 51 = .ok (.i2l, 1) := by decide +kernel
theorem dX12_moved_52 : decode cX12_moved 52 = .ok (.ldc2_w 449, 3) := by decide +kernel
theorem dX12_moved_55 : decode cX12_moved 55 = .ok (.ldc2_w 80, 3) := by decide +kernel
theorem dX12_moved_58 : decode cX12_moved 58 = .ok (.invokestatic 76, 3) := by decide +kernel
theorem dX12_moved_61 : decode cX12_moved 61 = .ok (.ifCond .ne 7, 3) := by decide +kernel
theorem dX12_moved_64 : decode cX12_moved 64 = .ok (.ldc_w 302, 3) := by decide +kernel
theorem dX12_moved_67 : decode cX12_moved 67 = .ok (.ireturn, 1) := by decide +kernel
theorem dX12_moved_68 : decode cX12_moved 68 = .ok (.aload_n 0, 1) := by decide +kernel
theorem dX12_moved_69 : decode cX12_moved 69 = .ok (.iload_n 1, 1) := by decide +kernel
theorem dX12_moved_70 : decode cX12_moved 70 = .ok (.iload_n 2, 1) := by decide +kernel
theorem dX12_moved_71 : decode cX12_moved 71 = .ok (.invokevirtual 444, 3) := by decide +kernel
theorem dX12_moved_74 : decode cX12_moved 74 = .ok (.istore 6, 2) := by decide +kernel
theorem dX12_moved_76 : decode cX12_moved 76 = .ok (.aload_n 0, 1) := by decide +kernel
theorem dX12_moved_77 : decode cX12_moved 77 = .ok (.iload_n 3, 1) := by decide +kernel
theorem dX12_moved_78 : decode cX12_moved 78 = .ok (.putfield 58, 3) := by decide +kernel
theorem dX12_moved_81 : decode cX12_moved 81 = .ok (.aload_n 0, 1) := by decide +kernel
theorem dX12_moved_82 : decode cX12_moved 82 = .ok (.iload 4, 2) := by decide +kernel
theorem dX12_moved_84 : decode cX12_moved 84 = .ok (.putfield 421, 3) := by decide +kernel
theorem dX12_moved_87 : decode cX12_moved 87 = .ok (.aload_n 0, 1) := by decide +kernel
theorem dX12_moved_88 : decode cX12_moved 88 = .ok (.iload 5, 2) := by decide +kernel
theorem dX12_moved_90 : decode cX12_moved 90 = .ok (.putfield 427, 3) := by decide +kernel
theorem dX12_moved_93 : decode cX12_moved 93 = .ok (.aload_n 0, 1) := by decide +kernel
theorem dX12_moved_94 : decode cX12_moved 94 = .ok (.iload_n 1, 1) := by decide +kernel
theorem dX12_moved_95 : decode cX12_moved 95 = .ok (.iload_n 2, 1) := by decide +kernel
theorem dX12_moved_96 : decode cX12_moved 96 = .ok (.invokevirtual 444, 3) := by decide +kernel
theorem dX12_moved_99 : decode cX12_moved 99 = .ok (.istore 7, 2) := by decide +kernel
theorem dX12_moved_101 : decode cX12_moved 101 = .ok (.aload_n 0, 1) := by decide +kernel
theorem dX12_moved_102 : decode cX12_moved 102 = .ok (.iconst (-1), 1) := by decide +kernel
theorem dX12_moved_103 : decode cX12_moved 103 = .ok (.putfield 58, 3) := by decide +kernel
theorem dX12_moved_106 : decode cX12_moved 106 = .ok (.iload 6, 2) := by decide +kernel
theorem dX12_moved_108 : decode cX12_moved 108 = .ok (.iload 7, 2) := by decide +kernel
theorem dX12_moved_110 : decode cX12_moved 110 = .ok (.isub, 1) := by decide +kernel
theorem dX12_moved_111 : decode cX12_moved 111 = .ok (.ireturn, 1) := by decide +kernel
set_option maxRecDepth 20000 in
theorem ggX12_isThere_X12_in : GoodIn wsX12_isThere wsX12_in := goodIn_r _ [5] (by decide +kernel) (by decide +kernel)
set_option maxRecDepth 20000 in
theorem gX12_isThere_X12_in : GoodIn wsX12_isThere (va_wsS RX12 76 yX12_in wsX12_in) := goodIn_app (goodIn_of _ (by decide +kernel)) ggX12_isThere_X12_in
theorem dX12_isThere_0 : decode cX12_isThere 0 = .ok (.sipush 374, 3) := by decide +kernel
theorem dX12_isThere_3 : decode cX12_isThere 3 = .ok (.iconst 4, 1) := by decide +kernel
theorem dX12_isThere_4 : decode cX12_isThere 4 = .ok (.iload_n 1, 1) := by decide +kernel
theorem dX12_isThere_5 : decode cX12_isThere 5 = .ok (.imul, 1) := by decide +kernel
theorem dX12_isThere_6 : decode cX12_isThere 6 = .ok (.iadd, 1) := by decide +kernel
theorem dX12_isThere_7 : decode cX12_isThere 7 = .ok (.istore_n 3, 1) := by decide +kernel
theorem dX12_isThere_8 : decode cX12_isThere 8 = .ok (.aload_n 0, 1) := by decide +kernel
theorem dX12_isThere_9 : decode cX12_isThere 9 = .ok (.getfield 13, 3) := by decide +kernel
theorem dX12_isThere_12 : decode cX12_isThere 12 = .ok (.iload_n 3, 1) := by decide +kernel
theorem dX12_isThere_13 : decode cX12_isThere 13 = .ok (.iconst 1, 1) := by decide +kernel
theorem dX12_isThere_14 : decode cX12_isThere 14 = .ok (.iadd, 1) := by decide +kernel
theorem dX12_isThere_15 : decode cX12_isThere 15 = .ok (.iaload, 1) := by decide +kernel
theorem dX12_isThere_16 : decode cX12_isThere 16 = .ok (.ifCond .eq 29, 3) := by decide +kernel
theorem dX12_isThere_19 : decode cX12_isThere 19 = .ok (.iload_n 2, 1) := by decide +kernel
theorem dX12_isThere_20 : decode cX12_isThere 20 = .ok (.i2l, 1) := by decide +kernel
theorem dX12_isThere_21 : decode cX12_isThere 21 = .ok (.aload_n 0, 1) := by decide +kernel
theorem dX12_isThere_22 : decode cX12_isThere 22 = .ok (.getfield 13, 3) := by decide +kernel
theorem dX12_isThere_25 : decode cX12_isThere 25 = .ok (.iload_n 3, 1) := by decide +kernel
theorem dX12_isThere_26 : decode cX12_isThere 26 = .ok (.iconst 2, 1) := by decide +kernel
theorem dX12_isThere_27 : decode cX12_isThere 27 = .ok (.iadd, 1) := by decide +kernel
theorem dX12_isThere_28 : decode cX12_isThere 28 = .ok (.iaload, 1) := by decide +kernel
theorem dX12_isThere_29 : decode cX12_isThere 29 = .ok (.i2l, 1) := by decide +kernel
theorem dX12_isThere_30 : decode cX12_isThere 30 = .ok (.aload_n 0, 1) := by decide +kernel
theorem dX12_isThere_31 : decode cX12_isThere 31 = .ok (.getfield 13, 3) := by decide +kernel
theorem dX12_isThere_34 : decode cX12_isThere 34 = .ok (.iload_n 3, 1) := by decide +kernel
theorem dX12_isThere_35 : decode cX12_isThere 35 = .ok (.iconst 3, 1) := by decide +kernel
theorem dX12_isThere_36 : decode cX12_isThere 36 = .ok (.iadd, 1) := by decide +kernel
theorem dX12_isThere_37 : decode cX12_isThere 37 = .ok (.iaload, 1) := by decide +kernel
theorem dX12_isThere_38 : decode cX12_isThere 38 = .ok (.i2l, 1) := by decide +kernel
theorem dX12_isThere_39 : decode cX12_isThere 39 = .ok (.invokestatic 76, 3) := by decide +kernel
theorem dX12_isThere_42 : decode cX12_isThere 42 = .ok (.ifCond .ne 7, 3) := by decide +kernel
theorem dX12_isThere_45 : decode cX12_isThere 45 = .ok (.iconst 1, 1) := by decide +kernel
theorem dX12_isThere_46 : decode cX12_isThere 46 = .ok (.goto 4, 3) := by decide +kernel
theorem dX12_isThere_49 : decode cX12_isThere 49 = .ok (.iconst 0, 1) := by decide +kernel
theorem dX12_isThere_50 : decode cX12_isThere 50 = .ok (.ireturn, 1) := by decide +kernel
set_option maxRecDepth 20000 in
theorem ggX12_whoOf_X12_holds : GoodIn wsX12_whoOf wsX12_holds := goodIn_r _ [5] (by decide +kernel) (by decide +kernel)
set_option maxRecDepth 20000 in
theorem gX12_whoOf_X12_holds : GoodIn wsX12_whoOf (va_wsS RX12 441 yX12_holds wsX12_holds) := goodIn_app (goodIn_of _ (by decide +kernel)) ggX12_whoOf_X12_holds
set_option maxRecDepth 20000 in
theorem ggX12_whoOf_X12_isThere : GoodIn wsX12_whoOf wsX12_isThere := goodIn_r _ [9, 1, 10, 11, 4, 12, 13, 14, 15, 16, 17, 18, 19, 20, 21, 22, 23, 24, 25, 26, 27, 28, 29, 30, 31, 32, 33, 34, 35, 36, 37, 38, 39, 40, 41, 42, 43, 44, 45, 46] (by decide +kernel) (by decide +kernel)
set_option maxRecDepth 20000 in
theorem gX12_whoOf_X12_isThere : GoodIn wsX12_whoOf (wsV RX12 451 RX12 yX12_isThere wsX12_isThere) := goodIn_app (goodIn_of _ (by decide +kernel)) ggX12_whoOf_X12_isThere
theorem dX12_whoOf_0 : decode cX12_whoOf 0 = .ok (.iconst 0, 1) := by decide +kernel
theorem dX12_whoOf_1 : decode cX12_whoOf 1 = .ok (.istore_n 3, 1) := by decide +kernel
theorem dX12_whoOf_2 : decode cX12_whoOf 2 = .ok (.iload_n 3, 1) := by decide +kernel
theorem dX12_whoOf_3 : decode cX12_whoOf 3 = .ok (.aload_n 0, 1) := by decide +kernel
theorem dX12_whoOf_4 : decode cX12_whoOf 4 = .ok (.getfield 13, 3) := by decide +kernel
theorem dX12_whoOf_7 : decode cX12_whoOf 7 = .ok (.iconst 4, 1) := by decide +kernel
theorem dX12_whoOf_8 : decode cX12_whoOf 8 = .ok (.iaload, 1) := by decide +kernel
theorem dX12_whoOf_9 : decode cX12_whoOf 9 = .ok (.if_icmp .ge 39, 3) := by decide +kernel
theorem dX12_whoOf_12 : decode cX12_whoOf 12 = .ok (.aload_n 0, 1) := by decide +kernel
theorem dX12_whoOf_13 : decode cX12_whoOf 13 = .ok (.getfield 13, 3) := by decide +kernel
theorem dX12_whoOf_16 : decode cX12_whoOf 16 = .ok (.sipush 374, 3) := by decide +kernel
theorem dX12_whoOf_19 : decode cX12_whoOf 19 = .ok (.iconst 4, 1) := by decide +kernel
theorem dX12_whoOf_20 : decode cX12_whoOf 20 = .ok (.iload_n 3, 1) := by decide +kernel
theorem dX12_whoOf_21 : decode cX12_whoOf 21 = .ok (.imul, 1) := by decide +kernel
theorem dX12_whoOf_22 : decode cX12_whoOf 22 = .ok (.iadd, 1) := by decide +kernel
theorem dX12_whoOf_23 : decode cX12_whoOf 23 = .ok (.iaload, 1) := by decide +kernel
theorem dX12_whoOf_24 : decode cX12_whoOf 24 = .ok (.iload_n 1, 1) := by decide +kernel
theorem dX12_whoOf_25 : decode cX12_whoOf 25 = .ok (.invokestatic 441, 3) := by decide +kernel
theorem dX12_whoOf_28 : decode cX12_whoOf 28 = .ok (.ifCond .eq 14, 3) := by decide +kernel
theorem dX12_whoOf_31 : decode cX12_whoOf 31 = .ok (.aload_n 0, 1) := by decide +kernel
theorem dX12_whoOf_32 : decode cX12_whoOf 32 = .ok (.iload_n 3, 1) := by decide +kernel
theorem dX12_whoOf_33 : decode cX12_whoOf 33 = .ok (.iload_n 2, 1) := by decide +kernel
theorem dX12_whoOf_34 : decode cX12_whoOf 34 = .ok (.invokevirtual 451, 3) := by decide +kernel
theorem dX12_whoOf_37 : decode cX12_whoOf 37 = .ok (.ifCond .eq 5, 3) := by decide +kernel
theorem dX12_whoOf_40 : decode cX12_whoOf 40 = .ok (.iload_n 3, 1) := by decide +kernel
theorem dX12_whoOf_41 : decode cX12_whoOf 41 = .ok (.ireturn, 1) := by decide +kernel
theorem dX12_whoOf_42 : decode cX12_whoOf 42 = .ok (.iinc 3 1, 3) := by decide +kernel
theorem dX12_whoOf_45 : decode cX12_whoOf 45 = .ok (.goto (-43), 3) := by decide +kernel
theorem dX12_whoOf_48 : decode cX12_whoOf 48 = .ok (.iconst (-1), 1) := by decide +kernel
theorem dX12_whoOf_49 : decode cX12_whoOf 49 = .ok (.ireturn, 1) := by decide +kernel
set_option maxRecDepth 20000 in
theorem ggX12_asked_X12_in : GoodIn wsX12_asked wsX12_in := goodIn_r _ [6] (by decide +kernel) (by decide +kernel)
set_option maxRecDepth 20000 in
theorem gX12_asked_X12_in : GoodIn wsX12_asked (va_wsS RX12 76 yX12_in wsX12_in) := goodIn_app (goodIn_of _ (by decide +kernel)) ggX12_asked_X12_in
set_option maxRecDepth 20000 in
theorem ggX12_asked_X12_whoOf : GoodIn wsX12_asked wsX12_whoOf := goodIn_r _ [10, 1, 11, 12, 5, 13, 14, 15, 16, 17, 3, 4, 6, 18, 19, 20, 21, 22, 23, 24, 25, 26, 27, 28, 29, 30, 31, 32, 33, 34, 35, 36, 37, 38, 39, 40, 41, 42, 43, 44, 45, 46, 47, 48, 49, 50, 51] (by decide +kernel) (by decide +kernel)
set_option maxRecDepth 20000 in
theorem gX12_asked_X12_whoOf : GoodIn wsX12_asked (wsV RX12 454 RX12 yX12_whoOf wsX12_whoOf) := goodIn_app (goodIn_of _ (by decide +kernel)) ggX12_asked_X12_whoOf
theorem dX12_asked_0 : decode cX12_asked 0 = .ok (.iload_n 1, 1) := by decide +kernel
theorem dX12_asked_1 : decode cX12_asked 1 = .ok (.i2l, 1) := by decide +kernel
theorem dX12_asked_2 : decode cX12_asked 2 = .ok (.lconst 0, 1) := by decide +kernel
theorem dX12_asked_3 : decode cX12_asked 3 = .ok (.aload_n 0, 1) := by decide +kernel
theorem dX12_asked_4 : decode cX12_asked 4 = .ok (.getfield 13, 3) := by decide +kernel
theorem dX12_asked_7 : decode cX12_asked 7 = .ok (.iconst 5, 1) := by decide +kernel
theorem dX12_asked_8 : decode cX12_asked 8 = .ok (.iaload, 1) := by decide +kernel
theorem dX12_asked_9 : decode cX12_asked 9 = .ok (.iconst 1, 1) := by decide +kernel
theorem dX12_asked_10 : decode cX12_asked 10 = .ok (.isub, 1) := by decide +kernel
theorem dX12_asked_11 : decode cX12_asked 11 = .ok (.i2l, 1) := by decide +kernel
theorem dX12_asked_12 : decode cX12_asked 12 = .ok (.invokestatic 76, 3) := by decide +kernel
theorem dX12_asked_15 : decode cX12_asked 15 = .ok (.ifCond .eq 15, 3) := by decide +kernel
theorem dX12_asked_18 : decode cX12_asked 18 = .ok (.iload_n 2, 1) := by decide +kernel
theorem dX12_asked_19 : decode cX12_asked 19 = .ok (.i2l, 1) := by decide +kernel
theorem dX12_asked_20 : decode cX12_asked 20 = .ok (.lconst 0, 1) := by decide +kernel
theorem dX12_asked_21 : decode cX12_asked 21 = .ok (.ldc2_w 334, 3) := by decide +kernel
theorem dX12_asked_24 : decode cX12_asked 24 = .ok (.invokestatic 76, 3) := by decide +kernel
theorem dX12_asked_27 : decode cX12_asked 27 = .ok (.ifCond .ne 6, 3) := by decide +kernel
theorem dX12_asked_30 : decode cX12_asked 30 = .ok (.bipush (-2), 2) := by decide +kernel
theorem dX12_asked_32 : decode cX12_asked 32 = .ok (.ireturn, 1) := by decide +kernel
theorem dX12_asked_33 : decode cX12_asked 33 = .ok (.sipush 422, 3) := by decide +kernel
theorem dX12_asked_36 : decode cX12_asked 36 = .ok (.iconst 3, 1) := by decide +kernel
theorem dX12_asked_37 : decode cX12_asked 37 = .ok (.iload_n 1, 1) := by decide +kernel
theorem dX12_asked_38 : decode cX12_asked 38 = .ok (.imul, 1) := by decide +kernel
theorem dX12_asked_39 : decode cX12_asked 39 = .ok (.iadd, 1) := by decide +kernel
theorem dX12_asked_40 : decode cX12_asked 40 = .ok (.istore_n 3, 1) := by decide +kernel
theorem dX12_asked_41 : decode cX12_asked 41 = .ok (.aload_n 0, 1) := by decide +kernel
theorem dX12_asked_42 : decode cX12_asked 42 = .ok (.getfield 13, 3) := by decide +kernel
theorem dX12_asked_45 : decode cX12_asked 45 = .ok (.bipush 9, 2) := by decide +kernel
theorem dX12_asked_47 : decode cX12_asked 47 = .ok (.iaload, 1) := by decide +kernel
theorem dX12_asked_48 : decode cX12_asked 48 = .ok (.iconst 4, 1) := by decide +kernel
theorem dX12_asked_49 : decode cX12_asked 49 = .ok (.aload_n 0, 1) := by decide +kernel
theorem dX12_asked_50 : decode cX12_asked 50 = .ok (.getfield 13, 3) := by decide +kernel
theorem dX12_asked_53 : decode cX12_asked 53 = .ok (.iload_n 3, 1) := by decide +kernel
theorem dX12_asked_54 : decode cX12_asked 54 = .ok (.iaload, 1) := by decide +kernel
theorem dX12_asked_55 : decode cX12_asked 55 = .ok (.imul, 1) := by decide +kernel
theorem dX12_asked_56 : decode cX12_asked 56 = .ok (.ishr, 1) := by decide +kernel
theorem dX12_asked_57 : decode cX12_asked 57 = .ok (.bipush 15, 2) := by decide +kernel
theorem dX12_asked_59 : decode cX12_asked 59 = .ok (.iand, 1) := by decide +kernel
theorem dX12_asked_60 : decode cX12_asked 60 = .ok (.istore 4, 2) := by decide +kernel
theorem dX12_asked_62 : decode cX12_asked 62 = .ok (.iconst 0, 1) := by decide +kernel
theorem dX12_asked_63 : decode cX12_asked 63 = .ok (.istore 5, 2) := by decide +kernel
theorem dX12_asked_65 : decode cX12_asked 65 = .ok (.iconst 0, 1) := by decide +kernel
theorem dX12_asked_66 : decode cX12_asked 66 = .ok (.istore 6, 2) := by decide +kernel
theorem dX12_asked_68 : decode cX12_asked 68 = .ok (.iload 6, 2) := by decide +kernel
theorem dX12_asked_70 : decode cX12_asked 70 = .ok (.iconst 4, 1) := by decide +kernel
theorem dX12_asked_71 : decode cX12_asked 71 = .ok (.if_icmp .ge 40, 3) := by decide +kernel
theorem dX12_asked_74 : decode cX12_asked 74 = .ok (.iload 5, 2) := by decide +kernel
theorem dX12_asked_76 : decode cX12_asked 76 = .ok (.aload_n 0, 1) := by decide +kernel
theorem dX12_asked_77 : decode cX12_asked 77 = .ok (.iload 6, 2) := by decide +kernel
theorem dX12_asked_79 : decode cX12_asked 79 = .ok (.aload_n 0, 1) := by decide +kernel
theorem dX12_asked_80 : decode cX12_asked 80 = .ok (.getfield 13, 3) := by decide +kernel
theorem dX12_asked_83 : decode cX12_asked 83 = .ok (.iload_n 3, 1) := by decide +kernel
theorem dX12_asked_84 : decode cX12_asked 84 = .ok (.iconst 1, 1) := by decide +kernel
theorem dX12_asked_85 : decode cX12_asked 85 = .ok (.iadd, 1) := by decide +kernel
theorem dX12_asked_86 : decode cX12_asked 86 = .ok (.iaload, 1) := by decide +kernel
theorem dX12_asked_87 : decode cX12_asked 87 = .ok (.invokevirtual 454, 3) := by decide +kernel
theorem dX12_asked_90 : decode cX12_asked 90 = .ok (.iconst (-1), 1) := by decide +kernel
theorem dX12_asked_91 : decode cX12_asked 91 = .ok (.if_icmp .ne 7, 3) := by decide +kernel
theorem dX12_asked_94 : decode cX12_asked 94 = .ok (.iconst 0, 1) := by decide +kernel
theorem dX12_asked_95 : decode cX12_asked 95 = .ok (.goto 7, 3) := by decide +kernel
theorem dX12_asked_98 : decode cX12_asked 98 = .ok (.iconst 1, 1) := by decide +kernel
theorem dX12_asked_99 : decode cX12_asked 99 = .ok (.iload 6, 2) := by decide +kernel
theorem dX12_asked_101 : decode cX12_asked 101 = .ok (.ishl, 1) := by decide +kernel
theorem dX12_asked_102 : decode cX12_asked 102 = .ok (.ior, 1) := by decide +kernel
theorem dX12_asked_103 : decode cX12_asked 103 = .ok (.istore 5, 2) := by decide +kernel
theorem dX12_asked_105 : decode cX12_asked 105 = .ok (.iinc 6 1, 3) := by decide +kernel
theorem dX12_asked_108 : decode cX12_asked 108 = .ok (.goto (-40), 3) := by decide +kernel
theorem dX12_asked_111 : decode cX12_asked 111 = .ok (.aload_n 0, 1) := by decide +kernel
theorem dX12_asked_112 : decode cX12_asked 112 = .ok (.getfield 13, 3) := by decide +kernel
theorem dX12_asked_115 : decode cX12_asked 115 = .ok (.iload_n 3, 1) := by decide +kernel
theorem dX12_asked_116 : decode cX12_asked 116 = .ok (.iconst 2, 1) := by decide +kernel
theorem dX12_asked_117 : decode cX12_asked 117 = .ok (.iadd, 1) := by decide +kernel
theorem dX12_asked_118 : decode cX12_asked 118 = .ok (.iaload, 1) := by decide +kernel
theorem dX12_asked_119 : decode cX12_asked 119 = .ok (.istore 6, 2) := by decide +kernel
theorem dX12_asked_121 : decode cX12_asked 121 = .ok (.iload_n 2, 1) := by decide +kernel
theorem dX12_asked_122 : decode cX12_asked 122 = .ok (.ifCond .ne 14, 3) := by decide +kernel
theorem dX12_asked_125 : decode cX12_asked 125 = .ok (.iload 6, 2) := by decide +kernel
theorem dX12_asked_127 : decode cX12_asked 127 = .ok (.iload 4, 2) := by decide +kernel
theorem dX12_asked_129 : decode cX12_asked 129 = .ok (.iand, 1) := by decide +kernel
theorem dX12_asked_130 : decode cX12_asked 130 = .ok (.iload 5, 2) := by decide +kernel
theorem dX12_asked_132 : decode cX12_asked 132 = .ok (.iand, 1) := by decide +kernel
theorem dX12_asked_133 : decode cX12_asked 133 = .ok (.goto 43, 3) := by decide +kernel
theorem dX12_asked_136 : decode cX12_asked 136 = .ok (.iload_n 2, 1) := by decide +kernel
theorem dX12_asked_137 : decode cX12_asked 137 = .ok (.iconst 1, 1) := by decide +kernel
theorem dX12_asked_138 : decode cX12_asked 138 = .ok (.if_icmp .ne 13, 3) := by decide +kernel
theorem dX12_asked_141 : decode cX12_asked 141 = .ok (.iload 6, 2) := by decide +kernel
theorem dX12_asked_143 : decode cX12_asked 143 = .ok (.iload 4, 2) := by decide +kernel
theorem dX12_asked_145 : decode cX12_asked 145 = .ok (.iconst (-1), 1) := by decide +kernel
theorem dX12_asked_146 : decode cX12_asked 146 = .ok (.ixor, 1) := by decide +kernel
theorem dX12_asked_147 : decode cX12_asked 147 = .ok (.iand, 1) := by decide +kernel
theorem dX12_asked_148 : decode cX12_asked 148 = .ok (.goto 28, 3) := by decide +kernel
theorem dX12_asked_151 : decode cX12_asked 151 = .ok (.iload_n 2, 1) := by decide +kernel
theorem dX12_asked_152 : decode cX12_asked 152 = .ok (.iconst 2, 1) := by decide +kernel
theorem dX12_asked_153 : decode cX12_asked 153 = .ok (.if_icmp .ne 16, 3) := by decide +kernel
theorem dX12_asked_156 : decode cX12_asked 156 = .ok (.iload 6, 2) := by decide +kernel
theorem dX12_asked_158 : decode cX12_asked 158 = .ok (.iload 4, 2) := by decide +kernel
theorem dX12_asked_160 : decode cX12_asked 160 = .ok (.iand, 1) := by decide +kernel
theorem dX12_asked_161 : decode cX12_asked 161 = .ok (.iload 5, 2) := by decide +kernel
theorem dX12_asked_163 : decode cX12_asked 163 = .ok (.iconst (-1), 1) := by decide +kernel
theorem dX12_asked_164 : decode cX12_asked 164 = .ok (.ixor, 1) := by decide +kernel
theorem dX12_asked_165 : decode cX12_asked 165 = .ok (.iand, 1) := by decide +kernel
theorem dX12_asked_166 : decode cX12_asked 166 = .ok (.goto 10, 3) := by decide +kernel
theorem dX12_asked_169 : decode cX12_asked 169 = .ok (.iload 6, 2) := by decide +kernel
theorem dX12_asked_171 : decode cX12_asked 171 = .ok (.iload 5, 2) := by decide +kernel
theorem dX12_asked_173 : decode cX12_asked 173 = .ok (.iconst (-1), 1) := by decide +kernel
theorem dX12_asked_174 : decode cX12_asked 174 = .ok (.ixor, 1) := by decide +kernel
theorem dX12_asked_175 : decode cX12_asked 175 = .ok (.iand, 1) := by decide +kernel
theorem dX12_asked_176 : decode cX12_asked 176 = .ok (.ireturn, 1) := by decide +kernel
set_option maxRecDepth 20000 in
theorem ggX12_wholeOf_X12_asked : GoodIn wsX12_wholeOf wsX12_asked := goodIn_r _ [6, 1, 7, 8, 9, 5, 10, 11, 12, 13, 14, 15, 16, 17, 18, 19, 20, 21, 22, 23, 24, 25, 26, 27, 28, 29, 30, 31, 32, 33, 34, 35, 36, 37, 38, 39, 40, 41, 42, 43, 44, 45, 46, 47, 48, 49, 50, 51, 52, 53, 54, 55] (by decide +kernel) (by decide +kernel)
set_option maxRecDepth 20000 in
theorem gX12_wholeOf_X12_asked : GoodIn wsX12_wholeOf (wsV RX12 457 RX12 yX12_asked wsX12_asked) := goodIn_app (goodIn_of _ (by decide +kernel)) ggX12_wholeOf_X12_asked
theorem dX12_wholeOf_0 : decode cX12_wholeOf 0 = .ok (.iconst 0, 1) := by decide +kernel
theorem dX12_wholeOf_1 : decode cX12_wholeOf 1 = .ok (.istore_n 1, 1) := by decide +kernel
theorem dX12_wholeOf_2 : decode cX12_wholeOf 2 = .ok (.iconst 0, 1) := by decide +kernel
theorem dX12_wholeOf_3 : decode cX12_wholeOf 3 = .ok (.istore_n 2, 1) := by decide +kernel
theorem dX12_wholeOf_4 : decode cX12_wholeOf 4 = .ok (.iload_n 2, 1) := by decide +kernel
theorem dX12_wholeOf_5 : decode cX12_wholeOf 5 = .ok (.aload_n 0, 1) := by decide +kernel
theorem dX12_wholeOf_6 : decode cX12_wholeOf 6 = .ok (.getfield 13, 3) := by decide +kernel
theorem dX12_wholeOf_9 : decode cX12_wholeOf 9 = .ok (.iconst 5, 1) := by decide +kernel
theorem dX12_wholeOf_10 : decode cX12_wholeOf 10 = .ok (.iaload, 1) := by decide +kernel
theorem dX12_wholeOf_11 : decode cX12_wholeOf 11 = .ok (.if_icmp .ge 42, 3) := by decide +kernel
theorem dX12_wholeOf_14 : decode cX12_wholeOf 14 = .ok (.iload_n 1, 1) := by decide +kernel
theorem dX12_wholeOf_15 : decode cX12_wholeOf 15 = .ok (.aload_n 0, 1) := by decide +kernel
theorem dX12_wholeOf_16 : decode cX12_wholeOf 16 = .ok (.iload_n 2, 1) := by decide +kernel
theorem dX12_wholeOf_17 : decode cX12_wholeOf 17 = .ok (.iconst 0, 1) := by decide +kernel
theorem dX12_wholeOf_18 : decode cX12_wholeOf 18 = .ok (.invokevirtual 457, 3) := by decide +kernel
theorem dX12_wholeOf_21 : decode cX12_wholeOf 21 = .ok (.aload_n 0, 1) := by decide +kernel
theorem dX12_wholeOf_22 : decode cX12_wholeOf 22 = .ok (.getfield 13, 3) := by decide +kernel
theorem dX12_wholeOf_25 : decode cX12_wholeOf 25 = .ok (.sipush 422, 3) := by decide +kernel
theorem dX12_wholeOf_28 : decode cX12_wholeOf 28 = .ok (.iconst 3, 1) := by decide +kernel
theorem dX12_wholeOf_29 : decode cX12_wholeOf 29 = .ok (.iload_n 2, 1) := by decide +kernel
theorem dX12_wholeOf_30 : decode cX12_wholeOf 30 = .ok (.imul, 1) := by decide +kernel
theorem dX12_wholeOf_31 : decode cX12_wholeOf 31 = .ok (.iadd, 1) := by decide +kernel
theorem dX12_wholeOf_32 : decode cX12_wholeOf 32 = .ok (.iconst 2, 1) := by decide +kernel
theorem dX12_wholeOf_33 : decode cX12_wholeOf 33 = .ok (.iadd, 1) := by decide +kernel
theorem dX12_wholeOf_34 : decode cX12_wholeOf 34 = .ok (.iaload, 1) := by decide +kernel
theorem dX12_wholeOf_35 : decode cX12_wholeOf 35 = .ok (.if_icmp .ne 9, 3) := by decide +kernel
theorem dX12_wholeOf_38 : decode cX12_wholeOf 38 = .ok (.iconst 1, 1) := by decide +kernel
theorem dX12_wholeOf_39 : decode cX12_wholeOf 39 = .ok (.iload_n 2, 1) := by decide +kernel
theorem dX12_wholeOf_40 : decode cX12_wholeOf 40 = .ok (.ishl, 1) := by decide +kernel
theorem dX12_wholeOf_41 : decode cX12_wholeOf 41 = .ok (.goto 4, 3) := by decide +kernel
theorem dX12_wholeOf_44 : decode cX12_wholeOf 44 = .ok (.iconst 0, 1) := by decide +kernel
theorem dX12_wholeOf_45 : decode cX12_wholeOf 45 = .ok (.ior, 1) := by decide +kernel
theorem dX12_wholeOf_46 : decode cX12_wholeOf 46 = .ok (.istore_n 1, 1) := by decide +kernel
theorem dX12_wholeOf_47 : decode cX12_wholeOf 47 = .ok (.iinc 2 1, 3) := by decide +kernel
theorem dX12_wholeOf_50 : decode cX12_wholeOf 50 = .ok (.goto (-46), 3) := by decide +kernel
theorem dX12_wholeOf_53 : decode cX12_wholeOf 53 = .ok (.iload_n 1, 1) := by decide +kernel
theorem dX12_wholeOf_54 : decode cX12_wholeOf 54 = .ok (.ireturn, 1) := by decide +kernel
set_option maxRecDepth 20000 in
theorem ggX12_whole_X12_wholeOf : GoodIn wsX12_whole wsX12_wholeOf := goodIn_r _ [5, 6, 7, 8, 9, 4, 10, 11, 12, 13, 14, 15, 16, 17, 18, 19, 20, 21, 22, 23, 24, 25, 26, 27, 28, 29, 30, 31, 32, 33, 34, 35, 36, 37, 38, 39, 40, 41, 42, 43, 44, 45, 46, 47, 48, 49, 50, 51, 52, 53, 54, 55, 56, 57, 58, 59] (by decide +kernel) (by decide +kernel)
set_option maxRecDepth 20000 in
theorem gX12_whole_X12_wholeOf : GoodIn wsX12_whole (wsV RX12 460 RX12 yX12_wholeOf wsX12_wholeOf) := goodIn_app (goodIn_of _ (by decide +kernel)) ggX12_whole_X12_wholeOf
theorem dX12_whole_0 : decode cX12_whole 0 = .ok (.aload_n 0, 1) := by decide +kernel
theorem dX12_whole_1 : decode cX12_whole 1 = .ok (.invokevirtual 460, 3) := by decide +kernel
theorem dX12_whole_4 : decode cX12_whole 4 = .ok (.ireturn, 1) := by decide +kernel
theorem dX12_many0_0 : decode cX12_many0 0 = .ok (.iconst 0, 1) := by decide +kernel
theorem dX12_many0_1 : decode cX12_many0 1 = .ok (.istore_n 1, 1) := by decide +kernel
theorem dX12_many0_2 : decode cX12_many0 2 = .ok (.iconst 0, 1) := by decide +kernel
theorem dX12_many0_3 : decode cX12_many0 3 = .ok (.istore_n 2, 1) := by decide +kernel
theorem dX12_many0_4 : decode cX12_many0 4 = .ok (.iload_n 2, 1) := by decide +kernel
theorem dX12_many0_5 : decode cX12_many0 5 = .ok (.bipush 20, 2) := by decide +kernel
theorem dX12_many0_7 : decode cX12_many0 7 = .ok (.if_icmp .ge 17, 3) := by decide +kernel
theorem dX12_many0_10 : decode cX12_many0 10 = .ok (.iload_n 1, 1) := by decide +kernel
theorem dX12_many0_11 : decode cX12_many0 11 = .ok (.iload_n 0, 1) := by decide +kernel
theorem dX12_many0_12 : decode cX12_many0 12 = .ok (.iload_n 2, 1) := by decide +kernel
theorem dX12_many0_13 : decode cX12_many0 13 = .ok (.ishr, 1) := by decide +kernel
theorem dX12_many0_14 : decode cX12_many0 14 = .ok (.iconst 1, 1) := by decide +kernel
theorem dX12_many0_15 : decode cX12_many0 15 = .ok (.iand, 1) := by decide +kernel
theorem dX12_many0_16 : decode cX12_many0 16 = .ok (.iadd, 1) := by decide +kernel
theorem dX12_many0_17 : decode cX12_many0 17 = .ok (.istore_n 1, 1) := by decide +kernel
theorem dX12_many0_18 : decode cX12_many0 18 = .ok (.iinc 2 1, 3) := by decide +kernel
theorem dX12_many0_21 : decode cX12_many0 21 = .ok (.goto (-17), 3) := by decide +kernel
theorem dX12_many0_24 : decode cX12_many0 24 = .ok (.iload_n 1, 1) := by decide +kernel
theorem dX12_many0_25 : decode cX12_many0 25 = .ok (.ireturn, 1) := by decide +kernel
set_option maxRecDepth 20000 in
theorem ggX12_staying_X12_in : GoodIn wsX12_staying wsX12_in := goodIn_r _ [5] (by decide +kernel) (by decide +kernel)
set_option maxRecDepth 20000 in
theorem gX12_staying_X12_in : GoodIn wsX12_staying (va_wsS RX12 76 yX12_in wsX12_in) := goodIn_app (goodIn_of _ (by decide +kernel)) ggX12_staying_X12_in
set_option maxRecDepth 20000 in
theorem ggX12_staying_X12_wholeOf : GoodIn wsX12_staying wsX12_wholeOf := goodIn_r _ [9, 1, 10, 11, 12, 4, 13, 14, 2, 3, 5, 15, 16, 17, 18, 19, 20, 21, 22, 23, 24, 25, 29, 30, 31, 32, 33, 34, 35, 36, 37, 38, 39, 40, 41, 42, 43, 44, 45, 46, 47, 48, 49, 50, 51, 52, 53, 54, 55, 56, 57, 58, 59, 60, 61, 62] (by decide +kernel) (by decide +kernel)
set_option maxRecDepth 20000 in
theorem gX12_staying_X12_wholeOf : GoodIn wsX12_staying (wsV RX12 460 RX12 yX12_wholeOf wsX12_wholeOf) := goodIn_app (goodIn_of _ (by decide +kernel)) ggX12_staying_X12_wholeOf
set_option maxRecDepth 20000 in
theorem ggX12_staying_X12_many0 : GoodIn wsX12_staying wsX12_many0 := goodIn_r _ [28] (by decide +kernel) (by decide +kernel)
set_option maxRecDepth 20000 in
theorem gX12_staying_X12_many0 : GoodIn wsX12_staying (va_wsS RX12 463 yX12_many0 wsX12_many0) := goodIn_app (goodIn_of _ (by decide +kernel)) ggX12_staying_X12_many0
theorem dX12_staying_0 : decode cX12_staying 0 = .ok (.iload_n 1, 1) := by decide +kernel
theorem dX12_staying_1 : decode cX12_staying 1 = .ok (.i2l, 1) := by decide +kernel
theorem dX12_staying_2 : decode cX12_staying 2 = .ok (.lconst 0, 1) := by decide +kernel
theorem dX12_staying_3 : decode cX12_staying 3 = .ok (.aload_n 0, 1) := by decide +kernel
theorem dX12_staying_4 : decode cX12_staying 4 = .ok (.getfield 13, 3) := by decide +kernel
theorem dX12_staying_7 : decode cX12_staying 7 = .ok (.iconst 4, 1) := by decide +kernel
theorem dX12_staying_8 : decode cX12_staying 8 = .ok (.iaload, 1) := by decide +kernel
theorem dX12_staying_9 : decode cX12_staying 9 = .ok (.iconst 1, 1) := by decide +kernel
theorem dX12_staying_10 : decode cX12_staying 10 = .ok (.isub, 1) := by decide +kernel
theorem dX12_staying_11 : decode cX12_staying 11 = .ok (.i2l, 1) := by decide +kernel
theorem dX12_staying_12 : decode cX12_staying 12 = .ok (.invokestatic 76, 3) := by decide +kernel
theorem dX12_staying_15 : decode cX12_staying 15 = .ok (.ifCond .ne 6, 3) := by decide +kernel
theorem dX12_staying_18 : decode cX12_staying 18 = .ok (.bipush (-2), 2) := by decide +kernel
theorem dX12_staying_20 : decode cX12_staying 20 = .ok (.ireturn, 1) := by decide +kernel
theorem dX12_staying_21 : decode cX12_staying 21 = .ok (.sipush 374, 3) := by decide +kernel
theorem dX12_staying_24 : decode cX12_staying 24 = .ok (.iconst 4, 1) := by decide +kernel
theorem dX12_staying_25 : decode cX12_staying 25 = .ok (.iload_n 1, 1) := by decide +kernel
theorem dX12_staying_26 : decode cX12_staying 26 = .ok (.imul, 1) := by decide +kernel
theorem dX12_staying_27 : decode cX12_staying 27 = .ok (.iadd, 1) := by decide +kernel
theorem dX12_staying_28 : decode cX12_staying 28 = .ok (.istore_n 2, 1) := by decide +kernel
theorem dX12_staying_29 : decode cX12_staying 29 = .ok (.aload_n 0, 1) := by decide +kernel
theorem dX12_staying_30 : decode cX12_staying 30 = .ok (.invokevirtual 460, 3) := by decide +kernel
theorem dX12_staying_33 : decode cX12_staying 33 = .ok (.invokestatic 463, 3) := by decide +kernel
theorem dX12_staying_36 : decode cX12_staying 36 = .ok (.istore_n 3, 1) := by decide +kernel
theorem dX12_staying_37 : decode cX12_staying 37 = .ok (.aload_n 0, 1) := by decide +kernel
theorem dX12_staying_38 : decode cX12_staying 38 = .ok (.getfield 13, 3) := by decide +kernel
theorem dX12_staying_41 : decode cX12_staying 41 = .ok (.iload_n 2, 1) := by decide +kernel
theorem dX12_staying_42 : decode cX12_staying 42 = .ok (.iconst 1, 1) := by decide +kernel
theorem dX12_staying_43 : decode cX12_staying 43 = .ok (.iadd, 1) := by decide +kernel
theorem dX12_staying_44 : decode cX12_staying 44 = .ok (.iaload, 1) := by decide +kernel
theorem dX12_staying_45 : decode cX12_staying 45 = .ok (.istore 4, 2) := by decide +kernel
theorem dX12_staying_47 : decode cX12_staying 47 = .ok (.aload_n 0, 1) := by decide +kernel
theorem dX12_staying_48 : decode cX12_staying 48 = .ok (.getfield 13, 3) := by decide +kernel
theorem dX12_staying_51 : decode cX12_staying 51 = .ok (.iload_n 2, 1) := by decide +kernel
theorem dX12_staying_52 : decode cX12_staying 52 = .ok (.iconst 1, 1) := by decide +kernel
theorem dX12_staying_53 : decode cX12_staying 53 = .ok (.iadd, 1) := by decide +kernel
theorem dX12_staying_54 : decode cX12_staying 54 = .ok (.iconst 0, 1) := by decide +kernel
theorem dX12_staying_55 : decode cX12_staying 55 = .ok (.iastore, 1) := by decide +kernel
theorem dX12_staying_56 : decode cX12_staying 56 = .ok (.aload_n 0, 1) := by decide +kernel
theorem dX12_staying_57 : decode cX12_staying 57 = .ok (.invokevirtual 460, 3) := by decide +kernel
theorem dX12_staying_60 : decode cX12_staying 60 = .ok (.invokestatic 463, 3) := by decide +kernel
theorem dX12_staying_63 : decode cX12_staying 63 = .ok (.istore 5, 2) := by decide +kernel
theorem dX12_staying_65 : decode cX12_staying 65 = .ok (.aload_n 0, 1) := by decide +kernel
theorem dX12_staying_66 : decode cX12_staying 66 = .ok (.getfield 13, 3) := by decide +kernel
theorem dX12_staying_69 : decode cX12_staying 69 = .ok (.iload_n 2, 1) := by decide +kernel
theorem dX12_staying_70 : decode cX12_staying 70 = .ok (.iconst 1, 1) := by decide +kernel
theorem dX12_staying_71 : decode cX12_staying 71 = .ok (.iadd, 1) := by decide +kernel
theorem dX12_staying_72 : decode cX12_staying 72 = .ok (.iload 4, 2) := by decide +kernel
theorem dX12_staying_74 : decode cX12_staying 74 = .ok (.iastore, 1) := by decide +kernel
theorem dX12_staying_75 : decode cX12_staying 75 = .ok (.iload 5, 2) := by decide +kernel
theorem dX12_staying_77 : decode cX12_staying 77 = .ok (.iload_n 3, 1) := by decide +kernel
theorem dX12_staying_78 : decode cX12_staying 78 = .ok (.isub, 1) := by decide +kernel
theorem dX12_staying_79 : decode cX12_staying 79 = .ok (.ireturn, 1) := by decide +kernel
set_option maxRecDepth 20000 in
theorem ggX12_who_X12_in : GoodIn wsX12_who wsX12_in := goodIn_r _ [6] (by decide +kernel) (by decide +kernel)
set_option maxRecDepth 20000 in
theorem gX12_who_X12_in : GoodIn wsX12_who (va_wsS RX12 76 yX12_in wsX12_in) := goodIn_app (goodIn_of _ (by decide +kernel)) ggX12_who_X12_in
set_option maxRecDepth 20000 in
theorem ggX12_who_X12_whoOf : GoodIn wsX12_who wsX12_whoOf := goodIn_r _ [10, 11, 12, 13, 5, 14, 15, 16, 17, 18, 3, 4, 6, 19, 20, 21, 22, 23, 24, 25, 26, 27, 28, 29, 30, 31, 32, 33, 34, 35, 36, 37, 38, 39, 40, 41, 42, 43, 44, 45, 46, 47, 48, 49, 50, 51, 52] (by decide +kernel) (by decide +kernel)
set_option maxRecDepth 20000 in
theorem gX12_who_X12_whoOf : GoodIn wsX12_who (wsV RX12 454 RX12 yX12_whoOf wsX12_whoOf) := goodIn_app (goodIn_of _ (by decide +kernel)) ggX12_who_X12_whoOf
theorem dX12_who_0 : decode cX12_who 0 = .ok (.iload_n 1, 1) := by decide +kernel
theorem dX12_who_1 : decode cX12_who 1 = .ok (.i2l, 1) := by decide +kernel
theorem dX12_who_2 : decode cX12_who 2 = .ok (.lconst 0, 1) := by decide +kernel
theorem dX12_who_3 : decode cX12_who 3 = .ok (.ldc2_w 334, 3) := by decide +kernel
theorem dX12_who_6 : decode cX12_who 6 = .ok (.invokestatic 76, 3) := by decide +kernel
theorem dX12_who_9 : decode cX12_who 9 = .ok (.ifCond .eq 24, 3) := by decide +kernel
theorem dX12_who_12 : decode cX12_who 12 = .ok (.iload_n 2, 1) := by decide +kernel
theorem dX12_who_13 : decode cX12_who 13 = .ok (.i2l, 1) := by decide +kernel
theorem dX12_who_14 : decode cX12_who 14 = .ok (.lconst 0, 1) := by decide +kernel
theorem dX12_who_15 : decode cX12_who 15 = .ok (.ldc2_w 80, 3) := by decide +kernel
theorem dX12_who_18 : decode cX12_who 18 = .ok (.invokestatic 76, 3) := by decide +kernel
theorem dX12_who_21 : decode cX12_who 21 = .ok (.ifCond .eq 12, 3) := by decide +kernel
theorem dX12_who_24 : decode cX12_who 24 = .ok (.aload_n 0, 1) := by decide +kernel
theorem dX12_who_25 : decode cX12_who 25 = .ok (.iload_n 1, 1) := by decide +kernel
theorem dX12_who_26 : decode cX12_who 26 = .ok (.iload_n 2, 1) := by decide +kernel
theorem dX12_who_27 : decode cX12_who 27 = .ok (.invokevirtual 454, 3) := by decide +kernel
theorem dX12_who_30 : decode cX12_who 30 = .ok (.goto 5, 3) := by decide +kernel
theorem dX12_who_33 : decode cX12_who 33 = .ok (.bipush (-2), 2) := by decide +kernel
theorem dX12_who_35 : decode cX12_who 35 = .ok (.ireturn, 1) := by decide +kernel
theorem dX12_heldBy_0 : decode cX12_heldBy 0 = .ok (.iconst 0, 1) := by decide +kernel
theorem dX12_heldBy_1 : decode cX12_heldBy 1 = .ok (.istore_n 3, 1) := by decide +kernel
theorem dX12_heldBy_2 : decode cX12_heldBy 2 = .ok (.iconst 0, 1) := by decide +kernel
theorem dX12_heldBy_3 : decode cX12_heldBy 3 = .ok (.istore 4, 2) := by decide +kernel
theorem dX12_heldBy_5 : decode cX12_heldBy 5 = .ok (.iload 4, 2) := by decide +kernel
theorem dX12_heldBy_7 : decode cX12_heldBy 7 = .ok (.aload_n 0, 1) := by decide +kernel
theorem dX12_heldBy_8 : decode cX12_heldBy 8 = .ok (.getfield 13, 3) := by decide +kernel
theorem dX12_heldBy_11 : decode cX12_heldBy 11 = .ok (.iconst 5, 1) := by decide +kernel
theorem dX12_heldBy_12 : decode cX12_heldBy 12 = .ok (.iaload, 1) := by decide +kernel
theorem dX12_heldBy_13 : decode cX12_heldBy 13 = .ok (.if_icmp .ge 89, 3) := by decide +kernel
theorem dX12_heldBy_16 : decode cX12_heldBy 16 = .ok (.iload_n 1, 1) := by decide +kernel
theorem dX12_heldBy_17 : decode cX12_heldBy 17 = .ok (.iconst 4, 1) := by decide +kernel
theorem dX12_heldBy_18 : decode cX12_heldBy 18 = .ok (.aload_n 0, 1) := by decide +kernel
theorem dX12_heldBy_19 : decode cX12_heldBy 19 = .ok (.getfield 13, 3) := by decide +kernel
theorem dX12_heldBy_22 : decode cX12_heldBy 22 = .ok (.sipush 422, 3) := by decide +kernel
theorem dX12_heldBy_25 : decode cX12_heldBy 25 = .ok (.iconst 3, 1) := by decide +kernel
theorem dX12_heldBy_26 : decode cX12_heldBy 26 = .ok (.iload 4, 2) := by decide +kernel
theorem dX12_heldBy_28 : decode cX12_heldBy 28 = .ok (.imul, 1) := by decide +kernel
theorem dX12_heldBy_29 : decode cX12_heldBy 29 = .ok (.iadd, 1) := by decide +kernel
theorem dX12_heldBy_30 : decode cX12_heldBy 30 = .ok (.iaload, 1) := by decide +kernel
theorem dX12_heldBy_31 : decode cX12_heldBy 31 = .ok (.imul, 1) := by decide +kernel
theorem dX12_heldBy_32 : decode cX12_heldBy 32 = .ok (.ishr, 1) := by decide +kernel
theorem dX12_heldBy_33 : decode cX12_heldBy 33 = .ok (.bipush 15, 2) := by decide +kernel
theorem dX12_heldBy_35 : decode cX12_heldBy 35 = .ok (.iand, 1) := by decide +kernel
theorem dX12_heldBy_36 : decode cX12_heldBy 36 = .ok (.istore 5, 2) := by decide +kernel
