theorem dX2_readRun_36 : decode cX2_readRun 36 = .ok (.invokevirtual 222, 3) := by decide +kernel
theorem dX2_readRun_39 : decode cX2_readRun 39 = .ok (.return_, 1) := by decide +kernel
set_option maxRecDepth 20000 in
theorem ggX2_readSwing_X9_expectNumber : GoodIn wsX2_readSwing wsX9_expectNumber := goodIn_r _ [8, 9, 10, 11, 12, 13, 14, 7, 15, 16, 17, 18, 19, 20, 21, 22, 23, 24, 25, 121, 122, 123, 124, 125, 126, 127, 128] (by decide +kernel) (by decide +kernel)
set_option maxRecDepth 20000 in
theorem gX2_readSwing_X9_expectNumber : GoodIn wsX2_readSwing (wsV RX2 144 RX9 yX9_expectNumber wsX9_expectNumber) := goodIn_app (goodIn_of _ (by decide +kernel)) ggX2_readSwing_X9_expectNumber
set_option maxRecDepth 20000 in
theorem ggX2_readSwing_X9_expect : GoodIn wsX2_readSwing wsX9_expect := goodIn_r _ [29, 30, 31, 32, 7, 33, 34, 35, 36, 37, 11, 9, 22, 16, 23, 24, 38, 39, 40, 41, 42, 43, 44, 45, 46, 47, 48, 49, 50, 51, 52, 53, 54, 55, 56, 57, 58, 59, 60, 61, 62, 63, 64, 65, 66, 67, 68, 69, 70, 71, 72, 73, 74, 75, 76, 77, 78, 79, 80, 81, 82, 83, 84, 85, 86, 18, 19, 20, 21, 10, 25, 12, 13, 14, 15, 17, 121, 122, 123, 124, 125, 126, 127, 128] (by decide +kernel) (by decide +kernel)
set_option maxRecDepth 20000 in
theorem gX2_readSwing_X9_expect : GoodIn wsX2_readSwing (wsV RX2 140 RX9 yX9_expect wsX9_expect) := goodIn_app (goodIn_of _ (by decide +kernel)) ggX2_readSwing_X9_expect
set_option maxRecDepth 20000 in
theorem ggX2_readSwing_X2_expectHours : GoodIn wsX2_readSwing wsX2_expectHours := goodIn_r _ [91, 1, 2, 3, 92, 93, 94, 95, 96, 4, 5, 6, 7, 8, 9, 10, 11, 12, 13, 14, 15, 16, 17, 18, 19, 20, 21, 22, 23, 24, 25, 107, 108, 109, 110, 111, 112, 113, 114, 115, 116, 117, 118, 119, 120, 129, 130, 131, 132, 133, 121, 122, 123, 124, 125, 126, 127, 128] (by decide +kernel) (by decide +kernel)
set_option maxRecDepth 20000 in
theorem gX2_readSwing_X2_expectHours : GoodIn wsX2_readSwing (wsV RX2 217 RX2 yX2_expectHours wsX2_expectHours) := goodIn_app (goodIn_of _ (by decide +kernel)) ggX2_readSwing_X2_expectHours
set_option maxRecDepth 20000 in
theorem ggX2_readSwing_X1_add : GoodIn wsX2_readSwing wsX1_add := goodIn_r _ [101, 102, 103, 104, 105, 106, 129, 130, 131, 132, 133] (by decide +kernel) (by decide +kernel)
set_option maxRecDepth 20000 in
theorem gX2_readSwing_X1_add : GoodIn wsX2_readSwing (wsV RX2 222 RX1 yX1_add wsX1_add) := goodIn_app (goodIn_of _ (by decide +kernel)) ggX2_readSwing_X1_add
theorem dX2_readSwing_0 : decode cX2_readSwing 0 = .ok (.aload_n 0, 1) := by decide +kernel
theorem dX2_readSwing_1 : decode cX2_readSwing 1 = .ok (.getfield 18, 3) := by decide +kernel
theorem dX2_readSwing_4 : decode cX2_readSwing 4 = .ok (.iconst 0, 1) := by decide +kernel
theorem dX2_readSwing_5 : decode cX2_readSwing 5 = .ok (.sipush 999, 3) := by decide +kernel
theorem dX2_readSwing_8 : decode cX2_readSwing 8 = .ok (.invokevirtual 144, 3) := by decide +kernel
theorem dX2_readSwing_11 : decode cX2_readSwing 11 = .ok (.istore_n 1, 1) := by decide +kernel
theorem dX2_readSwing_12 : decode cX2_readSwing 12 = .ok (.aload_n 0, 1) := by decide +kernel
theorem dX2_readSwing_13 : decode cX2_readSwing 13 = .ok (.getfield 18, 3) := by decide +kernel
theorem dX2_readSwing_16 : decode cX2_readSwing 16 = .ok (.ldc 225, 2) := by decide +kernel
theorem dX2_readSwing_18 : decode cX2_readSwing 18 = .ok (.invokevirtual 140, 3) := by decide +kernel
theorem dX2_readSwing_21 : decode cX2_readSwing 21 = .ok (.aload_n 0, 1) := by decide +kernel
theorem dX2_readSwing_22 : decode cX2_readSwing 22 = .ok (.getfield 18, 3) := by decide +kernel
theorem dX2_readSwing_25 : decode cX2_readSwing 25 = .ok (.iconst 0, 1) := by decide +kernel
theorem dX2_readSwing_26 : decode cX2_readSwing 26 = .ok (.sipush 999, 3) := by decide +kernel
theorem dX2_readSwing_29 : decode cX2_readSwing 29 = .ok (.invokevirtual 144, 3) := by decide +kernel
theorem dX2_readSwing_32 : decode cX2_readSwing 32 = .ok (.istore_n 2, 1) := by decide +kernel
theorem dX2_readSwing_33 : decode cX2_readSwing 33 = .ok (.aload_n 0, 1) := by decide +kernel
theorem dX2_readSwing_34 : decode cX2_readSwing 34 = .ok (.getfield 18, 3) := by decide +kernel
theorem dX2_readSwing_37 : decode cX2_readSwing 37 = .ok (.ldc 227, 2) := by decide +kernel
theorem dX2_readSwing_39 : decode cX2_readSwing 39 = .ok (.invokevirtual 140, 3) := by decide +kernel
theorem dX2_readSwing_42 : decode cX2_readSwing 42 = .ok (.aload_n 0, 1) := by decide +kernel
theorem dX2_readSwing_43 : decode cX2_readSwing 43 = .ok (.getfield 12, 3) := by decide +kernel
theorem dX2_readSwing_46 : decode cX2_readSwing 46 = .ok (.getfield 205, 3) := by decide +kernel
theorem dX2_readSwing_49 : decode cX2_readSwing 49 = .ok (.aload_n 0, 1) := by decide +kernel
theorem dX2_readSwing_50 : decode cX2_readSwing 50 = .ok (.invokevirtual 217, 3) := by decide +kernel
theorem dX2_readSwing_53 : decode cX2_readSwing 53 = .ok (.iload_n 1, 1) := by decide +kernel
theorem dX2_readSwing_54 : decode cX2_readSwing 54 = .ok (.iload_n 2, 1) := by decide +kernel
theorem dX2_readSwing_55 : decode cX2_readSwing 55 = .ok (.invokevirtual 222, 3) := by decide +kernel
theorem dX2_readSwing_58 : decode cX2_readSwing 58 = .ok (.return_, 1) := by decide +kernel
set_option maxRecDepth 20000 in
theorem ggX2_readWind_X9_passes : GoodIn wsX2_readWind wsX9_passes := goodIn_r _ [10, 11, 12, 13, 9, 14, 15, 16, 17, 18, 19, 20, 21, 22, 23, 24, 25, 26, 27, 28, 29, 30, 31, 32, 33, 34, 35, 36, 37, 38, 39, 40, 41, 42, 43, 44, 45, 46, 47, 48, 49, 50, 51, 52, 53, 54, 55, 56, 57, 58, 59, 60, 61, 62, 63, 64, 65, 66, 67, 68, 69, 70, 71, 72, 73, 74, 75, 104, 105, 106, 107, 108, 109, 110, 111] (by decide +kernel) (by decide +kernel)
set_option maxRecDepth 20000 in
theorem gX2_readWind_X9_passes : GoodIn wsX2_readWind (wsV RX2 177 RX9 yX9_passes wsX9_passes) := goodIn_app (goodIn_of _ (by decide +kernel)) ggX2_readWind_X9_passes
set_option maxRecDepth 20000 in
theorem ggX2_readWind_X9_expect : GoodIn wsX2_readWind wsX9_expect := goodIn_r _ [79, 80, 7, 8, 9, 10, 11, 12, 13, 14, 15, 16, 17, 18, 19, 20, 21, 22, 23, 24, 25, 26, 27, 28, 29, 30, 31, 32, 33, 34, 35, 36, 37, 38, 39, 40, 41, 42, 43, 44, 45, 46, 47, 48, 49, 50, 51, 52, 53, 54, 55, 56, 57, 58, 59, 60, 61, 62, 63, 64, 65, 66, 67, 68, 69, 70, 71, 72, 73, 74, 75, 81, 82, 83, 84, 85, 104, 105, 106, 107, 108, 109, 110, 111] (by decide +kernel) (by decide +kernel)
set_option maxRecDepth 20000 in
theorem gX2_readWind_X9_expect : GoodIn wsX2_readWind (wsV RX2 140 RX9 yX9_expect wsX9_expect) := goodIn_app (goodIn_of _ (by decide +kernel)) ggX2_readWind_X9_expect
set_option maxRecDepth 20000 in
theorem ggX2_readWind_X9_expectNumber : GoodIn wsX2_readWind wsX9_expectNumber := goodIn_r _ [89, 16, 74, 15, 81, 82, 83, 9, 84, 18, 85, 70, 71, 72, 73, 17, 19, 20, 75, 104, 105, 106, 107, 108, 109, 110, 111] (by decide +kernel) (by decide +kernel)
set_option maxRecDepth 20000 in
theorem gX2_readWind_X9_expectNumber : GoodIn wsX2_readWind (wsV RX2 144 RX9 yX9_expectNumber wsX9_expectNumber) := goodIn_app (goodIn_of _ (by decide +kernel)) ggX2_readWind_X9_expectNumber
theorem dX2_readWind_0 : decode cX2_readWind 0 = .ok (.iconst 0, 1) := by decide +kernel
theorem dX2_readWind_1 : decode cX2_readWind 1 = .ok (.istore_n 1, 1) := by decide +kernel
theorem dX2_readWind_2 : decode cX2_readWind 2 = .ok (.iconst 0, 1) := by decide +kernel
theorem dX2_readWind_3 : decode cX2_readWind 3 = .ok (.istore_n 2, 1) := by decide +kernel
theorem dX2_readWind_4 : decode cX2_readWind 4 = .ok (.aload_n 0, 1) := by decide +kernel
theorem dX2_readWind_5 : decode cX2_readWind 5 = .ok (.getfield 18, 3) := by decide +kernel
theorem dX2_readWind_8 : decode cX2_readWind 8 = .ok (.ldc 229, 2) := by decide +kernel
theorem dX2_readWind_10 : decode cX2_readWind 10 = .ok (.invokevirtual 177, 3) := by decide +kernel
theorem dX2_readWind_13 : decode cX2_readWind 13 = .ok (.ifCond .eq 8, 3) := by decide +kernel
theorem dX2_readWind_16 : decode cX2_readWind 16 = .ok (.iconst (-1), 1) := by decide +kernel
theorem dX2_readWind_17 : decode cX2_readWind 17 = .ok (.istore_n 1, 1) := by decide +kernel
theorem dX2_readWind_18 : decode cX2_readWind 18 = .ok (.goto 48, 3) := by decide +kernel
theorem dX2_readWind_21 : decode cX2_readWind 21 = .ok (.aload_n 0, 1) := by decide +kernel
theorem dX2_readWind_22 : decode cX2_readWind 22 = .ok (.getfield 18, 3) := by decide +kernel
theorem dX2_readWind_25 : decode cX2_readWind 25 = .ok (.ldc 191, 2) := by decide +kernel
theorem dX2_readWind_27 : decode cX2_readWind 27 = .ok (.invokevirtual 177, 3) := by decide +kernel
theorem dX2_readWind_30 : decode cX2_readWind 30 = .ok (.ifCond .eq 8, 3) := by decide +kernel
theorem dX2_readWind_33 : decode cX2_readWind 33 = .ok (.iconst 1, 1) := by decide +kernel
theorem dX2_readWind_34 : decode cX2_readWind 34 = .ok (.istore_n 1, 1) := by decide +kernel
theorem dX2_readWind_35 : decode cX2_readWind 35 = .ok (.goto 31, 3) := by decide +kernel
theorem dX2_readWind_38 : decode cX2_readWind 38 = .ok (.aload_n 0, 1) := by decide +kernel
theorem dX2_readWind_39 : decode cX2_readWind 39 = .ok (.getfield 18, 3) := by decide +kernel
theorem dX2_readWind_42 : decode cX2_readWind 42 = .ok (.ldc 193, 2) := by decide +kernel
theorem dX2_readWind_44 : decode cX2_readWind 44 = .ok (.invokevirtual 177, 3) := by decide +kernel
theorem dX2_readWind_47 : decode cX2_readWind 47 = .ok (.ifCond .eq 8, 3) := by decide +kernel
theorem dX2_readWind_50 : decode cX2_readWind 50 = .ok (.iconst 1, 1) := by decide +kernel
theorem dX2_readWind_51 : decode cX2_readWind 51 = .ok (.istore_n 2, 1) := by decide +kernel
theorem dX2_readWind_52 : decode cX2_readWind 52 = .ok (.goto 14, 3) := by decide +kernel
theorem dX2_readWind_55 : decode cX2_readWind 55 = .ok (.aload_n 0, 1) := by decide +kernel
theorem dX2_readWind_56 : decode cX2_readWind 56 = .ok (.getfield 18, 3) := by decide +kernel
theorem dX2_readWind_59 : decode cX2_readWind 59 = .ok (.ldc 195, 2) := by decide +kernel
theorem dX2_readWind_61 : decode cX2_readWind 61 = .ok (.invokevirtual 140, 3) := by decide +kernel
theorem dX2_readWind_64 : decode cX2_readWind 64 = .ok (.iconst (-1), 1) := by decide +kernel
theorem dX2_readWind_65 : decode cX2_readWind 65 = .ok (.istore_n 2, 1) := by decide +kernel
theorem dX2_readWind_66 : decode cX2_readWind 66 = .ok (.aload_n 0, 1) := by decide +kernel
theorem dX2_readWind_67 : decode cX2_readWind 67 = .ok (.getfield 18, 3) := by decide +kernel
theorem dX2_readWind_70 : decode cX2_readWind 70 = .ok (.iconst 0, 1) := by decide +kernel
theorem dX2_readWind_71 : decode cX2_readWind 71 = .ok (.bipush 50, 2) := by decide +kernel
theorem dX2_readWind_73 : decode cX2_readWind 73 = .ok (.invokevirtual 144, 3) := by decide +kernel
theorem dX2_readWind_76 : decode cX2_readWind 76 = .ok (.istore_n 3, 1) := by decide +kernel
theorem dX2_readWind_77 : decode cX2_readWind 77 = .ok (.aload_n 0, 1) := by decide +kernel
theorem dX2_readWind_78 : decode cX2_readWind 78 = .ok (.getfield 12, 3) := by decide +kernel
theorem dX2_readWind_81 : decode cX2_readWind 81 = .ok (.iconst 1, 1) := by decide +kernel
theorem dX2_readWind_82 : decode cX2_readWind 82 = .ok (.putfield 42, 3) := by decide +kernel
theorem dX2_readWind_85 : decode cX2_readWind 85 = .ok (.aload_n 0, 1) := by decide +kernel
theorem dX2_readWind_86 : decode cX2_readWind 86 = .ok (.getfield 12, 3) := by decide +kernel
theorem dX2_readWind_89 : decode cX2_readWind 89 = .ok (.iload_n 1, 1) := by decide +kernel
theorem dX2_readWind_90 : decode cX2_readWind 90 = .ok (.iload_n 3, 1) := by decide +kernel
theorem dX2_readWind_91 : decode cX2_readWind 91 = .ok (.imul, 1) := by decide +kernel
theorem dX2_readWind_92 : decode cX2_readWind 92 = .ok (.putfield 231, 3) := by decide +kernel
theorem dX2_readWind_95 : decode cX2_readWind 95 = .ok (.aload_n 0, 1) := by decide +kernel
theorem dX2_readWind_96 : decode cX2_readWind 96 = .ok (.getfield 12, 3) := by decide +kernel
theorem dX2_readWind_99 : decode cX2_readWind 99 = .ok (.iload_n 2, 1) := by decide +kernel
theorem dX2_readWind_100 : decode cX2_readWind 100 = .ok (.iload_n 3, 1) := by decide +kernel
theorem dX2_readWind_101 : decode cX2_readWind 101 = .ok (.imul, 1) := by decide +kernel
theorem dX2_readWind_102 : decode cX2_readWind 102 = .ok (.putfield 234, 3) := by decide +kernel
theorem dX2_readWind_105 : decode cX2_readWind 105 = .ok (.return_, 1) := by decide +kernel
set_option maxRecDepth 20000 in
theorem ggX2_readRoom_X9_expect : GoodIn wsX2_readRoom wsX9_expect := goodIn_r _ [8, 9, 10, 11, 7, 12, 13, 14, 15, 16, 17, 18, 19, 20, 21, 22, 23, 24, 25, 26, 27, 28, 29, 30, 31, 32, 33, 34, 35, 36, 37, 38, 39, 40, 41, 42, 43, 44, 45, 46, 47, 48, 49, 50, 51, 52, 53, 54, 55, 56, 57, 58, 59, 60, 61, 62, 63, 64, 65, 66, 67, 68, 69, 70, 71, 72, 73, 74, 75, 76, 77, 78, 79, 80, 81, 82, 113, 114, 115, 116, 117, 118, 119, 120] (by decide +kernel) (by decide +kernel)
set_option maxRecDepth 20000 in
theorem gX2_readRoom_X9_expect : GoodIn wsX2_readRoom (wsV RX2 140 RX9 yX9_expect wsX9_expect) := goodIn_app (goodIn_of _ (by decide +kernel)) ggX2_readRoom_X9_expect
set_option maxRecDepth 20000 in
theorem ggX2_readRoom_X9_expectNumber : GoodIn wsX2_readRoom wsX9_expectNumber := goodIn_r _ [86, 18, 76, 17, 78, 79, 80, 7, 81, 20, 82, 72, 73, 74, 75, 19, 21, 22, 77, 113, 114, 115, 116, 117, 118, 119, 120] (by decide +kernel) (by decide +kernel)
set_option maxRecDepth 20000 in
theorem gX2_readRoom_X9_expectNumber : GoodIn wsX2_readRoom (wsV RX2 144 RX9 yX9_expectNumber wsX9_expectNumber) := goodIn_app (goodIn_of _ (by decide +kernel)) ggX2_readRoom_X9_expectNumber
set_option maxRecDepth 20000 in
theorem ggX2_readRoom_X9_passes : GoodIn wsX2_readRoom wsX9_passes := goodIn_r _ [12, 13, 14, 15, 7, 16, 17, 18, 19, 20, 21, 22, 23, 24, 25, 26, 27, 28, 29, 30, 31, 32, 33, 34, 35, 36, 37, 38, 39, 40, 41, 42, 43, 44, 45, 46, 47, 48, 49, 50, 51, 52, 53, 54, 55, 56, 57, 58, 59, 60, 61, 62, 63, 64, 65, 66, 67, 68, 69, 70, 71, 72, 73, 74, 75, 76, 77, 113, 114, 115, 116, 117, 118, 119, 120] (by decide +kernel) (by decide +kernel)
set_option maxRecDepth 20000 in
theorem gX2_readRoom_X9_passes : GoodIn wsX2_readRoom (wsV RX2 177 RX9 yX9_passes wsX9_passes) := goodIn_app (goodIn_of _ (by decide +kernel)) ggX2_readRoom_X9_passes
set_option maxRecDepth 20000 in
theorem ggX2_readRoom_X6_add : GoodIn wsX2_readRoom wsX6_add := goodIn_r _ [92, 93, 94, 95, 96, 97, 98, 121, 122, 123, 124, 125, 126] (by decide +kernel) (by decide +kernel)
set_option maxRecDepth 20000 in
theorem gX2_readRoom_X6_add : GoodIn wsX2_readRoom (wsV RX2 243 RX6 yX6_add wsX6_add) := goodIn_app (goodIn_of _ (by decide +kernel)) ggX2_readRoom_X6_add
theorem dX2_readRoom_0 : decode cX2_readRoom 0 = .ok (.aload_n 0, 1) := by decide +kernel
theorem dX2_readRoom_1 : decode cX2_readRoom 1 = .ok (.getfield 18, 3) := by decide +kernel
theorem dX2_readRoom_4 : decode cX2_readRoom 4 = .ok (.ldc 220, 2) := by decide +kernel
theorem dX2_readRoom_6 : decode cX2_readRoom 6 = .ok (.invokevirtual 140, 3) := by decide +kernel
theorem dX2_readRoom_9 : decode cX2_readRoom 9 = .ok (.aload_n 0, 1) := by decide +kernel
theorem dX2_readRoom_10 : decode cX2_readRoom 10 = .ok (.getfield 18, 3) := by decide +kernel
theorem dX2_readRoom_13 : decode cX2_readRoom 13 = .ok (.iconst 0, 1) := by decide +kernel
theorem dX2_readRoom_14 : decode cX2_readRoom 14 = .ok (.sipush 999, 3) := by decide +kernel
theorem dX2_readRoom_17 : decode cX2_readRoom 17 = .ok (.invokevirtual 144, 3) := by decide +kernel
theorem dX2_readRoom_20 : decode cX2_readRoom 20 = .ok (.istore_n 1, 1) := by decide +kernel
theorem dX2_readRoom_21 : decode cX2_readRoom 21 = .ok (.aload_n 0, 1) := by decide +kernel
theorem dX2_readRoom_22 : decode cX2_readRoom 22 = .ok (.getfield 18, 3) := by decide +kernel
theorem dX2_readRoom_25 : decode cX2_readRoom 25 = .ok (.iconst 0, 1) := by decide +kernel
theorem dX2_readRoom_26 : decode cX2_readRoom 26 = .ok (.sipush 500, 3) := by decide +kernel
theorem dX2_readRoom_29 : decode cX2_readRoom 29 = .ok (.invokevirtual 144, 3) := by decide +kernel
theorem dX2_readRoom_32 : decode cX2_readRoom 32 = .ok (.istore_n 2, 1) := by decide +kernel
theorem dX2_readRoom_33 : decode cX2_readRoom 33 = .ok (.aload_n 0, 1) := by decide +kernel
theorem dX2_readRoom_34 : decode cX2_readRoom 34 = .ok (.getfield 18, 3) := by decide +kernel
theorem dX2_readRoom_37 : decode cX2_readRoom 37 = .ok (.ldc 237, 2) := by decide +kernel
theorem dX2_readRoom_39 : decode cX2_readRoom 39 = .ok (.invokevirtual 140, 3) := by decide +kernel
theorem dX2_readRoom_42 : decode cX2_readRoom 42 = .ok (.aload_n 0, 1) := by decide +kernel
theorem dX2_readRoom_43 : decode cX2_readRoom 43 = .ok (.getfield 18, 3) := by decide +kernel
theorem dX2_readRoom_46 : decode cX2_readRoom 46 = .ok (.iconst 0, 1) := by decide +kernel
theorem dX2_readRoom_47 : decode cX2_readRoom 47 = .ok (.sipush 999, 3) := by decide +kernel
theorem dX2_readRoom_50 : decode cX2_readRoom 50 = .ok (.invokevirtual 144, 3) := by decide +kernel
theorem dX2_readRoom_53 : decode cX2_readRoom 53 = .ok (.istore_n 3, 1) := by decide +kernel
theorem dX2_readRoom_54 : decode cX2_readRoom 54 = .ok (.aload_n 0, 1) := by decide +kernel
theorem dX2_readRoom_55 : decode cX2_readRoom 55 = .ok (.getfield 18, 3) := by decide +kernel
theorem dX2_readRoom_58 : decode cX2_readRoom 58 = .ok (.ldc 239, 2) := by decide +kernel
theorem dX2_readRoom_60 : decode cX2_readRoom 60 = .ok (.invokevirtual 140, 3) := by decide +kernel
theorem dX2_readRoom_63 : decode cX2_readRoom 63 = .ok (.aload_n 0, 1) := by decide +kernel
theorem dX2_readRoom_64 : decode cX2_readRoom 64 = .ok (.getfield 18, 3) := by decide +kernel
theorem dX2_readRoom_67 : decode cX2_readRoom 67 = .ok (.iconst 0, 1) := by decide +kernel
theorem dX2_readRoom_68 : decode cX2_readRoom 68 = .ok (.sipush 999, 3) := by decide +kernel
theorem dX2_readRoom_71 : decode cX2_readRoom 71 = .ok (.invokevirtual 144, 3) := by decide +kernel
theorem dX2_readRoom_74 : decode cX2_readRoom 74 = .ok (.istore 4, 2) := by decide +kernel
theorem dX2_readRoom_76 : decode cX2_readRoom 76 = .ok (.aload_n 0, 1) := by decide +kernel
theorem dX2_readRoom_77 : decode cX2_readRoom 77 = .ok (.getfield 12, 3) := by decide +kernel
theorem dX2_readRoom_80 : decode cX2_readRoom 80 = .ok (.getfield 118, 3) := by decide +kernel
theorem dX2_readRoom_83 : decode cX2_readRoom 83 = .ok (.iload_n 1, 1) := by decide +kernel
theorem dX2_readRoom_84 : decode cX2_readRoom 84 = .ok (.iload_n 2, 1) := by decide +kernel
theorem dX2_readRoom_85 : decode cX2_readRoom 85 = .ok (.iload_n 3, 1) := by decide +kernel
theorem dX2_readRoom_86 : decode cX2_readRoom 86 = .ok (.iload 4, 2) := by decide +kernel
theorem dX2_readRoom_88 : decode cX2_readRoom 88 = .ok (.aload_n 0, 1) := by decide +kernel
theorem dX2_readRoom_89 : decode cX2_readRoom 89 = .ok (.getfield 18, 3) := by decide +kernel
theorem dX2_readRoom_92 : decode cX2_readRoom 92 = .ok (.ldc 241, 2) := by decide +kernel
theorem dX2_readRoom_94 : decode cX2_readRoom 94 = .ok (.invokevirtual 177, 3) := by decide +kernel
theorem dX2_readRoom_97 : decode cX2_readRoom 97 = .ok (.invokevirtual 243, 3) := by decide +kernel
theorem dX2_readRoom_100 : decode cX2_readRoom 100 = .ok (.return_, 1) := by decide +kernel
set_option maxRecDepth 20000 in
theorem ggX2_readPerson_X9_expect : GoodIn wsX2_readPerson wsX9_expect := goodIn_r _ [8, 9, 10, 11, 7, 12, 13, 14, 15, 16, 17, 18, 19, 20, 21, 22, 23, 24, 25, 26, 27, 28, 29, 30, 31, 32, 33, 34, 35, 36, 37, 38, 39, 40, 41, 42, 43, 44, 45, 46, 47, 48, 49, 50, 51, 52, 53, 54, 55, 56, 57, 58, 59, 60, 61, 62, 63, 64, 65, 66, 67, 68, 69, 70, 71, 72, 73, 74, 75, 76, 77, 78, 79, 80, 81, 82, 118, 119, 120, 121, 122, 123, 124, 125] (by decide +kernel) (by decide +kernel)
set_option maxRecDepth 20000 in
theorem gX2_readPerson_X9_expect : GoodIn wsX2_readPerson (wsV RX2 140 RX9 yX9_expect wsX9_expect) := goodIn_app (goodIn_of _ (by decide +kernel)) ggX2_readPerson_X9_expect
set_option maxRecDepth 20000 in
theorem ggX2_readPerson_X2_expectSubjects : GoodIn wsX2_readPerson wsX2_expectSubjects := goodIn_r _ [87, 1, 88, 89, 10, 11, 7, 12, 13, 14, 15, 16, 17, 18, 19, 20, 21, 22, 23, 24, 25, 26, 27, 28, 29, 30, 31, 32, 33, 34, 35, 36, 37, 38, 39, 40, 41, 42, 43, 44, 45, 46, 47, 48, 49, 50, 51, 52, 53, 54, 55, 56, 57, 58, 59, 60, 61, 62, 63, 64, 65, 66, 67, 68, 69, 70, 71, 72, 73, 74, 75, 76, 77, 90, 79, 80, 81, 82, 104, 105, 118, 119, 120, 121, 122, 123, 124, 125] (by decide +kernel) (by decide +kernel)
set_option maxRecDepth 20000 in
theorem gX2_readPerson_X2_expectSubjects : GoodIn wsX2_readPerson (wsV RX2 248 RX2 yX2_expectSubjects wsX2_expectSubjects) := goodIn_app (goodIn_of _ (by decide +kernel)) ggX2_readPerson_X2_expectSubjects
set_option maxRecDepth 20000 in
theorem ggX2_readPerson_X9_passes : GoodIn wsX2_readPerson wsX9_passes := goodIn_r _ [12, 13, 14, 15, 7, 16, 17, 18, 19, 20, 21, 22, 23, 24, 25, 26, 27, 28, 29, 30, 31, 32, 33, 34, 35, 36, 37, 38, 39, 40, 41, 42, 43, 44, 45, 46, 47, 48, 49, 50, 51, 52, 53, 54, 55, 56, 57, 58, 59, 60, 61, 62, 63, 64, 65, 66, 67, 68, 69, 70, 71, 72, 73, 74, 75, 76, 77, 118, 119, 120, 121, 122, 123, 124, 125] (by decide +kernel) (by decide +kernel)
set_option maxRecDepth 20000 in
theorem gX2_readPerson_X9_passes : GoodIn wsX2_readPerson (wsV RX2 177 RX9 yX9_passes wsX9_passes) := goodIn_app (goodIn_of _ (by decide +kernel)) ggX2_readPerson_X9_passes
set_option maxRecDepth 20000 in
theorem ggX2_readPerson_X9_expectNumber : GoodIn wsX2_readPerson wsX9_expectNumber := goodIn_r _ [94, 18, 76, 17, 78, 79, 80, 7, 81, 20, 82, 72, 73, 74, 75, 19, 21, 22, 77, 118, 119, 120, 121, 122, 123, 124, 125] (by decide +kernel) (by decide +kernel)
set_option maxRecDepth 20000 in
theorem gX2_readPerson_X9_expectNumber : GoodIn wsX2_readPerson (wsV RX2 144 RX9 yX9_expectNumber wsX9_expectNumber) := goodIn_app (goodIn_of _ (by decide +kernel)) ggX2_readPerson_X9_expectNumber
set_option maxRecDepth 20000 in
theorem ggX2_readPerson_X4_addPerson : GoodIn wsX2_readPerson wsX4_addPerson := goodIn_r _ [99, 100, 101, 102, 103, 126, 127, 128, 129, 130, 131, 132, 133, 134, 135, 136] (by decide +kernel) (by decide +kernel)
set_option maxRecDepth 20000 in
theorem gX2_readPerson_X4_addPerson : GoodIn wsX2_readPerson (wsV RX2 253 RX4 yX4_addPerson wsX4_addPerson) := goodIn_app (goodIn_of _ (by decide +kernel)) ggX2_readPerson_X4_addPerson
theorem dX2_readPerson_0 : decode cX2_readPerson 0 = .ok (.aload_n 0, 1) := by decide +kernel
theorem dX2_readPerson_1 : decode cX2_readPerson 1 = .ok (.getfield 18, 3) := by decide +kernel
theorem dX2_readPerson_4 : decode cX2_readPerson 4 = .ok (.ldc 246, 2) := by decide +kernel
theorem dX2_readPerson_6 : decode cX2_readPerson 6 = .ok (.invokevirtual 140, 3) := by decide +kernel
theorem dX2_readPerson_9 : decode cX2_readPerson 9 = .ok (.aload_n 0, 1) := by decide +kernel
theorem dX2_readPerson_10 : decode cX2_readPerson 10 = .ok (.invokevirtual 248, 3) := by decide +kernel
theorem dX2_readPerson_13 : decode cX2_readPerson 13 = .ok (.istore_n 1, 1) := by decide +kernel
theorem dX2_readPerson_14 : decode cX2_readPerson 14 = .ok (.iconst 1, 1) := by decide +kernel
theorem dX2_readPerson_15 : decode cX2_readPerson 15 = .ok (.istore_n 2, 1) := by decide +kernel
theorem dX2_readPerson_16 : decode cX2_readPerson 16 = .ok (.iconst 0, 1) := by decide +kernel
theorem dX2_readPerson_17 : decode cX2_readPerson 17 = .ok (.istore_n 3, 1) := by decide +kernel
theorem dX2_readPerson_18 : decode cX2_readPerson 18 = .ok (.aload_n 0, 1) := by decide +kernel
theorem dX2_readPerson_19 : decode cX2_readPerson 19 = .ok (.getfield 18, 3) := by decide +kernel
theorem dX2_readPerson_22 : decode cX2_readPerson 22 = .ok (.ldc 251, 2) := by decide +kernel
theorem dX2_readPerson_24 : decode cX2_readPerson 24 = .ok (.invokevirtual 177, 3) := by decide +kernel
theorem dX2_readPerson_27 : decode cX2_readPerson 27 = .ok (.ifCond .eq 36, 3) := by decide +kernel
theorem dX2_readPerson_30 : decode cX2_readPerson 30 = .ok (.aload_n 0, 1) := by decide +kernel
theorem dX2_readPerson_31 : decode cX2_readPerson 31 = .ok (.getfield 18, 3) := by decide +kernel
theorem dX2_readPerson_34 : decode cX2_readPerson 34 = .ok (.iconst 0, 1) := by decide +kernel
theorem dX2_readPerson_35 : decode cX2_readPerson 35 = .ok (.sipush 999, 3) := by decide +kernel
theorem dX2_readPerson_38 : decode cX2_readPerson 38 = .ok (.invokevirtual 144, 3) := by decide +kernel
theorem dX2_readPerson_41 : decode cX2_readPerson 41 = .ok (.istore_n 2, 1) := by decide +kernel
theorem dX2_readPerson_42 : decode cX2_readPerson 42 = .ok (.aload_n 0, 1) := by decide +kernel
theorem dX2_readPerson_43 : decode cX2_readPerson 43 = .ok (.getfield 18, 3) := by decide +kernel
theorem dX2_readPerson_46 : decode cX2_readPerson 46 = .ok (.ldc 154, 2) := by decide +kernel
theorem dX2_readPerson_48 : decode cX2_readPerson 48 = .ok (.invokevirtual 140, 3) := by decide +kernel
theorem dX2_readPerson_51 : decode cX2_readPerson 51 = .ok (.aload_n 0, 1) := by decide +kernel
theorem dX2_readPerson_52 : decode cX2_readPerson 52 = .ok (.getfield 18, 3) := by decide +kernel
theorem dX2_readPerson_55 : decode cX2_readPerson 55 = .ok (.iload_n 2, 1) := by decide +kernel
theorem dX2_readPerson_56 : decode cX2_readPerson 56 = .ok (.sipush 999, 3) := by decide +kernel
theorem dX2_readPerson_59 : decode cX2_readPerson 59 = .ok (.invokevirtual 144, 3) := by decide +kernel
theorem dX2_readPerson_62 : decode cX2_readPerson 62 = .ok (.istore_n 3, 1) := by decide +kernel
theorem dX2_readPerson_63 : decode cX2_readPerson 63 = .ok (.aload_n 0, 1) := by decide +kernel
theorem dX2_readPerson_64 : decode cX2_readPerson 64 = .ok (.getfield 12, 3) := by decide +kernel
theorem dX2_readPerson_67 : decode cX2_readPerson 67 = .ok (.getfield 127, 3) := by decide +kernel
theorem dX2_readPerson_70 : decode cX2_readPerson 70 = .ok (.iload_n 1, 1) := by decide +kernel
theorem dX2_readPerson_71 : decode cX2_readPerson 71 = .ok (.iload_n 2, 1) := by decide +kernel
theorem dX2_readPerson_72 : decode cX2_readPerson 72 = .ok (.iload_n 3, 1) := by decide +kernel
theorem dX2_readPerson_73 : decode cX2_readPerson 73 = .ok (.invokevirtual 253, 3) := by decide +kernel
theorem dX2_readPerson_76 : decode cX2_readPerson 76 = .ok (.return_, 1) := by decide +kernel
set_option maxRecDepth 20000 in
theorem ggX2_readRule_X2_expectKind : GoodIn wsX2_readRule wsX2_expectKind := goodIn_r _ [8, 1, 9, 10, 11, 12, 13, 14, 15, 16, 17, 18, 19, 20, 21, 22, 23, 24, 25, 26, 27, 28, 29, 30, 31, 32, 33, 34, 35, 36, 37, 38, 39, 40, 41, 42, 43, 44, 45, 46, 47, 48, 49, 50, 51, 52, 53, 54, 55, 56, 57, 58, 59, 60, 61, 62, 63, 64, 65, 66, 67, 68, 69, 70, 71, 72, 73, 74, 75, 76, 77, 78, 79, 80, 81, 82, 83, 101, 102, 115, 116, 117, 118, 119, 120, 121, 122] (by decide +kernel) (by decide +kernel)
set_option maxRecDepth 20000 in
theorem gX2_readRule_X2_expectKind : GoodIn wsX2_readRule (wsV RX2 256 RX2 yX2_expectKind wsX2_expectKind) := goodIn_app (goodIn_of _ (by decide +kernel)) ggX2_readRule_X2_expectKind
set_option maxRecDepth 20000 in
theorem ggX2_readRule_X9_expect : GoodIn wsX2_readRule wsX9_expect := goodIn_r _ [87, 88, 10, 11, 12, 13, 14, 15, 16, 17, 18, 19, 20, 21, 22, 23, 24, 25, 26, 27, 28, 29, 30, 31, 32, 33, 34, 35, 36, 37, 38, 39, 40, 41, 42, 43, 44, 45, 46, 47, 48, 49, 50, 51, 52, 53, 54, 55, 56, 57, 58, 59, 60, 61, 62, 63, 64, 65, 66, 67, 68, 69, 70, 71, 72, 73, 74, 75, 76, 77, 78, 89, 80, 81, 82, 83, 115, 116, 117, 118, 119, 120, 121, 122] (by decide +kernel) (by decide +kernel)
set_option maxRecDepth 20000 in
theorem gX2_readRule_X9_expect : GoodIn wsX2_readRule (wsV RX2 140 RX9 yX9_expect wsX9_expect) := goodIn_app (goodIn_of _ (by decide +kernel)) ggX2_readRule_X9_expect
set_option maxRecDepth 20000 in
theorem ggX2_readRule_X2_expectSubjects : GoodIn wsX2_readRule wsX2_expectSubjects := goodIn_r _ [93, 1, 94, 9, 10, 11, 12, 13, 14, 15, 16, 17, 18, 19, 20, 21, 22, 23, 24, 25, 26, 27, 28, 29, 30, 31, 32, 33, 34, 35, 36, 37, 38, 39, 40, 41, 42, 43, 44, 45, 46, 47, 48, 49, 50, 51, 52, 53, 54, 55, 56, 57, 58, 59, 60, 61, 62, 63, 64, 65, 66, 67, 68, 69, 70, 71, 72, 73, 74, 75, 76, 77, 78, 79, 80, 81, 82, 83, 101, 102, 115, 116, 117, 118, 119, 120, 121, 122] (by decide +kernel) (by decide +kernel)
set_option maxRecDepth 20000 in
theorem gX2_readRule_X2_expectSubjects : GoodIn wsX2_readRule (wsV RX2 248 RX2 yX2_expectSubjects wsX2_expectSubjects) := goodIn_app (goodIn_of _ (by decide +kernel)) ggX2_readRule_X2_expectSubjects
set_option maxRecDepth 20000 in
theorem ggX2_readRule_X4_addRule : GoodIn wsX2_readRule wsX4_addRule := goodIn_r _ [99, 100, 123, 124, 125, 126, 127, 128, 129, 130, 131, 132, 133] (by decide +kernel) (by decide +kernel)
set_option maxRecDepth 20000 in
theorem gX2_readRule_X4_addRule : GoodIn wsX2_readRule (wsV RX2 261 RX4 yX4_addRule wsX4_addRule) := goodIn_app (goodIn_of _ (by decide +kernel)) ggX2_readRule_X4_addRule
theorem dX2_readRule_0 : decode cX2_readRule 0 = .ok (.aload_n 0, 1) := by decide +kernel
theorem dX2_readRule_1 : decode cX2_readRule 1 = .ok (.invokevirtual 256, 3) := by decide +kernel
theorem dX2_readRule_4 : decode cX2_readRule 4 = .ok (.istore_n 1, 1) := by decide +kernel
theorem dX2_readRule_5 : decode cX2_readRule 5 = .ok (.aload_n 0, 1) := by decide +kernel
theorem dX2_readRule_6 : decode cX2_readRule 6 = .ok (.getfield 18, 3) := by decide +kernel
theorem dX2_readRule_9 : decode cX2_readRule 9 = .ok (.ldc_w 259, 3) := by decide +kernel
theorem dX2_readRule_12 : decode cX2_readRule 12 = .ok (.invokevirtual 140, 3) := by decide +kernel
theorem dX2_readRule_15 : decode cX2_readRule 15 = .ok (.aload_n 0, 1) := by decide +kernel
theorem dX2_readRule_16 : decode cX2_readRule 16 = .ok (.getfield 12, 3) := by decide +kernel
theorem dX2_readRule_19 : decode cX2_readRule 19 = .ok (.getfield 127, 3) := by decide +kernel
theorem dX2_readRule_22 : decode cX2_readRule 22 = .ok (.iload_n 1, 1) := by decide +kernel
theorem dX2_readRule_23 : decode cX2_readRule 23 = .ok (.aload_n 0, 1) := by decide +kernel
theorem dX2_readRule_24 : decode cX2_readRule 24 = .ok (.invokevirtual 248, 3) := by decide +kernel
theorem dX2_readRule_27 : decode cX2_readRule 27 = .ok (.invokevirtual 261, 3) := by decide +kernel
theorem dX2_readRule_30 : decode cX2_readRule 30 = .ok (.return_, 1) := by decide +kernel
set_option maxRecDepth 20000 in
theorem ggX2_readChange_X2_expectKind : GoodIn wsX2_readChange wsX2_expectKind := goodIn_r _ [8, 1, 9, 10, 11, 12, 13, 14, 15, 16, 17, 18, 19, 20, 21, 22, 23, 24, 25, 26, 27, 28, 29, 30, 31, 32, 33, 34, 35, 36, 37, 38, 39, 40, 41, 42, 43, 44, 45, 46, 47, 48, 49, 50, 51, 52, 53, 54, 55, 56, 57, 58, 59, 60, 61, 62, 63, 64, 65, 66, 67, 68, 69, 70, 71, 72, 73, 74, 75, 76, 77, 78, 79, 80, 81, 82, 83, 108, 109, 122, 123, 124, 125, 126, 127, 128, 129] (by decide +kernel) (by decide +kernel)
set_option maxRecDepth 20000 in
theorem gX2_readChange_X2_expectKind : GoodIn wsX2_readChange (wsV RX2 256 RX2 yX2_expectKind wsX2_expectKind) := goodIn_app (goodIn_of _ (by decide +kernel)) ggX2_readChange_X2_expectKind
set_option maxRecDepth 20000 in
theorem ggX2_readChange_X9_expect : GoodIn wsX2_readChange wsX9_expect := goodIn_r _ [87, 88, 10, 11, 12, 13, 14, 15, 16, 17, 18, 19, 20, 21, 22, 23, 24, 25, 26, 27, 28, 29, 30, 31, 32, 33, 34, 35, 36, 37, 38, 39, 40, 41, 42, 43, 44, 45, 46, 47, 48, 49, 50, 51, 52, 53, 54, 55, 56, 57, 58, 59, 60, 61, 62, 63, 64, 65, 66, 67, 68, 69, 70, 71, 72, 73, 74, 75, 76, 77, 78, 89, 80, 81, 82, 83, 122, 123, 124, 125, 126, 127, 128, 129] (by decide +kernel) (by decide +kernel)
set_option maxRecDepth 20000 in
theorem gX2_readChange_X9_expect : GoodIn wsX2_readChange (wsV RX2 140 RX9 yX9_expect wsX9_expect) := goodIn_app (goodIn_of _ (by decide +kernel)) ggX2_readChange_X9_expect
set_option maxRecDepth 20000 in
theorem ggX2_readChange_X9_expectNumber : GoodIn wsX2_readChange wsX9_expectNumber := goodIn_r _ [93, 19, 77, 18, 89, 80, 81, 12, 82, 21, 83, 73, 74, 75, 76, 20, 22, 23, 78, 122, 123, 124, 125, 126, 127, 128, 129] (by decide +kernel) (by decide +kernel)
set_option maxRecDepth 20000 in
theorem gX2_readChange_X9_expectNumber : GoodIn wsX2_readChange (wsV RX2 144 RX9 yX9_expectNumber wsX9_expectNumber) := goodIn_app (goodIn_of _ (by decide +kernel)) ggX2_readChange_X9_expectNumber
set_option maxRecDepth 20000 in
theorem ggX2_readChange_X2_expectSubjects : GoodIn wsX2_readChange wsX2_expectSubjects := goodIn_r _ [97, 1, 98, 9, 10, 11, 12, 13, 14, 15, 16, 17, 18, 19, 20, 21, 22, 23, 24, 25, 26, 27, 28, 29, 30, 31, 32, 33, 34, 35, 36, 37, 38, 39, 40, 41, 42, 43, 44, 45, 46, 47, 48, 49, 50, 51, 52, 53, 54, 55, 56, 57, 58, 59, 60, 61, 62, 63, 64, 65, 66, 67, 68, 69, 70, 71, 72, 73, 74, 75, 76, 77, 78, 79, 80, 81, 82, 83, 108, 109, 122, 123, 124, 125, 126, 127, 128, 129] (by decide +kernel) (by decide +kernel)
set_option maxRecDepth 20000 in
theorem gX2_readChange_X2_expectSubjects : GoodIn wsX2_readChange (wsV RX2 248 RX2 yX2_expectSubjects wsX2_expectSubjects) := goodIn_app (goodIn_of _ (by decide +kernel)) ggX2_readChange_X2_expectSubjects
set_option maxRecDepth 20000 in
theorem ggX2_readChange_X4_addChange : GoodIn wsX2_readChange wsX4_addChange := goodIn_r _ [103, 104, 105, 106, 107, 130, 131, 132, 133, 134, 135, 136, 137, 138, 139, 140] (by decide +kernel) (by decide +kernel)
set_option maxRecDepth 20000 in
theorem gX2_readChange_X4_addChange : GoodIn wsX2_readChange (wsV RX2 266 RX4 yX4_addChange wsX4_addChange) := goodIn_app (goodIn_of _ (by decide +kernel)) ggX2_readChange_X4_addChange
theorem dX2_readChange_0 : decode cX2_readChange 0 = .ok (.aload_n 0, 1) := by decide +kernel
theorem dX2_readChange_1 : decode cX2_readChange 1 = .ok (.invokevirtual 256, 3) := by decide +kernel
theorem dX2_readChange_4 : decode cX2_readChange 4 = .ok (.istore_n 1, 1) := by decide +kernel
theorem dX2_readChange_5 : decode cX2_readChange 5 = .ok (.aload_n 0, 1) := by decide +kernel
theorem dX2_readChange_6 : decode cX2_readChange 6 = .ok (.getfield 18, 3) := by decide +kernel
theorem dX2_readChange_9 : decode cX2_readChange 9 = .ok (.ldc 237, 2) := by decide +kernel
theorem dX2_readChange_11 : decode cX2_readChange 11 = .ok (.invokevirtual 140, 3) := by decide +kernel
theorem dX2_readChange_14 : decode cX2_readChange 14 = .ok (.aload_n 0, 1) := by decide +kernel
theorem dX2_readChange_15 : decode cX2_readChange 15 = .ok (.getfield 18, 3) := by decide +kernel
theorem dX2_readChange_18 : decode cX2_readChange 18 = .ok (.iconst 0, 1) := by decide +kernel
theorem dX2_readChange_19 : decode cX2_readChange 19 = .ok (.sipush 999, 3) := by decide +kernel
theorem dX2_readChange_22 : decode cX2_readChange 22 = .ok (.invokevirtual 144, 3) := by decide +kernel
theorem dX2_readChange_25 : decode cX2_readChange 25 = .ok (.istore_n 2, 1) := by decide +kernel
theorem dX2_readChange_26 : decode cX2_readChange 26 = .ok (.aload_n 0, 1) := by decide +kernel
theorem dX2_readChange_27 : decode cX2_readChange 27 = .ok (.getfield 18, 3) := by decide +kernel
theorem dX2_readChange_30 : decode cX2_readChange 30 = .ok (.ldc_w 264, 3) := by decide +kernel
theorem dX2_readChange_33 : decode cX2_readChange 33 = .ok (.invokevirtual 140, 3) := by decide +kernel
theorem dX2_readChange_36 : decode cX2_readChange 36 = .ok (.aload_n 0, 1) := by decide +kernel
theorem dX2_readChange_37 : decode cX2_readChange 37 = .ok (.getfield 12, 3) := by decide +kernel
theorem dX2_readChange_40 : decode cX2_readChange 40 = .ok (.getfield 127, 3) := by decide +kernel
theorem dX2_readChange_43 : decode cX2_readChange 43 = .ok (.iload_n 1, 1) := by decide +kernel
theorem dX2_readChange_44 : decode cX2_readChange 44 = .ok (.iload_n 2, 1) := by decide +kernel
theorem dX2_readChange_45 : decode cX2_readChange 45 = .ok (.aload_n 0, 1) := by decide +kernel
theorem dX2_readChange_46 : decode cX2_readChange 46 = .ok (.invokevirtual 248, 3) := by decide +kernel
theorem dX2_readChange_49 : decode cX2_readChange 49 = .ok (.invokevirtual 266, 3) := by decide +kernel
theorem dX2_readChange_52 : decode cX2_readChange 52 = .ok (.return_, 1) := by decide +kernel
set_option maxRecDepth 20000 in
theorem ggX2_expectKind_X9_passes : GoodIn wsX2_expectKind wsX9_passes := goodIn_r _ [6, 7, 8, 9, 5, 10, 11, 12, 13, 14, 15, 16, 17, 18, 19, 20, 21, 22, 23, 24, 25, 26, 27, 28, 29, 30, 31, 32, 33, 34, 35, 36, 37, 38, 39, 40, 41, 42, 43, 44, 45, 46, 47, 48, 49, 50, 51, 52, 53, 54, 55, 56, 57, 58, 59, 60, 61, 62, 63, 64, 65, 66, 67, 68, 69, 70, 71, 79, 80, 81, 82, 83, 84, 85, 86] (by decide +kernel) (by decide +kernel)
set_option maxRecDepth 20000 in
theorem gX2_expectKind_X9_passes : GoodIn wsX2_expectKind (wsV RX2 177 RX9 yX9_passes wsX9_passes) := goodIn_app (goodIn_of _ (by decide +kernel)) ggX2_expectKind_X9_passes
set_option maxRecDepth 20000 in
theorem ggX2_expectKind_X9_fail : GoodIn wsX2_expectKind wsX9_fail := goodIn_r _ [75, 11, 14, 76, 79, 80, 81, 82, 83, 84, 85, 86] (by decide +kernel) (by decide +kernel)
set_option maxRecDepth 20000 in
theorem gX2_expectKind_X9_fail : GoodIn wsX2_expectKind (wsV RX2 39 RX9 yX9_fail wsX9_fail) := goodIn_app (goodIn_of _ (by decide +kernel)) ggX2_expectKind_X9_fail
theorem dX2_expectKind_0 : decode cX2_expectKind 0 = .ok (.aload_n 0, 1) := by decide +kernel
theorem dX2_expectKind_1 : decode cX2_expectKind 1 = .ok (.getfield 18, 3) := by decide +kernel
theorem dX2_expectKind_4 : decode cX2_expectKind 4 = .ok (.ldc 90, 2) := by decide +kernel
theorem dX2_expectKind_6 : decode cX2_expectKind 6 = .ok (.invokevirtual 177, 3) := by decide +kernel
theorem dX2_expectKind_9 : decode cX2_expectKind 9 = .ok (.ifCond .eq 5, 3) := by decide +kernel
theorem dX2_expectKind_12 : decode cX2_expectKind 12 = .ok (.iconst 0, 1) := by decide +kernel
theorem dX2_expectKind_13 : decode cX2_expectKind 13 = .ok (.ireturn, 1) := by decide +kernel
theorem dX2_expectKind_14 : decode cX2_expectKind 14 = .ok (.aload_n 0, 1) := by decide +kernel
theorem dX2_expectKind_15 : decode cX2_expectKind 15 = .ok (.getfield 18, 3) := by decide +kernel
theorem dX2_expectKind_18 : decode cX2_expectKind 18 = .ok (.ldc 96, 2) := by decide +kernel
theorem dX2_expectKind_20 : decode cX2_expectKind 20 = .ok (.invokevirtual 177, 3) := by decide +kernel
theorem dX2_expectKind_23 : decode cX2_expectKind 23 = .ok (.ifCond .eq 5, 3) := by decide +kernel
theorem dX2_expectKind_26 : decode cX2_expectKind 26 = .ok (.iconst 1, 1) := by decide +kernel
theorem dX2_expectKind_27 : decode cX2_expectKind 27 = .ok (.ireturn, 1) := by decide +kernel
theorem dX2_expectKind_28 : decode cX2_expectKind 28 = .ok (.aload_n 0, 1) := by decide +kernel
theorem dX2_expectKind_29 : decode cX2_expectKind 29 = .ok (.getfield 18, 3) := by decide +kernel
theorem dX2_expectKind_32 : decode cX2_expectKind 32 = .ok (.ldc 175, 2) := by decide +kernel
theorem dX2_expectKind_34 : decode cX2_expectKind 34 = .ok (.invokevirtual 177, 3) := by decide +kernel
theorem dX2_expectKind_37 : decode cX2_expectKind 37 = .ok (.ifCond .eq 5, 3) := by decide +kernel
theorem dX2_expectKind_40 : decode cX2_expectKind 40 = .ok (.iconst 2, 1) := by decide +kernel
theorem dX2_expectKind_41 : decode cX2_expectKind 41 = .ok (.ireturn, 1) := by decide +kernel
theorem dX2_expectKind_42 : decode cX2_expectKind 42 = .ok (.aload_n 0, 1) := by decide +kernel
theorem dX2_expectKind_43 : decode cX2_expectKind 43 = .ok (.getfield 18, 3) := by decide +kernel
theorem dX2_expectKind_46 : decode cX2_expectKind 46 = .ok (.ldc_w 269, 3) := by decide +kernel
theorem dX2_expectKind_49 : decode cX2_expectKind 49 = .ok (.invokevirtual 177, 3) := by decide +kernel
theorem dX2_expectKind_52 : decode cX2_expectKind 52 = .ok (.ifCond .ne 11, 3) := by decide +kernel
theorem dX2_expectKind_55 : decode cX2_expectKind 55 = .ok (.aload_n 0, 1) := by decide +kernel
theorem dX2_expectKind_56 : decode cX2_expectKind 56 = .ok (.getfield 18, 3) := by decide +kernel
theorem dX2_expectKind_59 : decode cX2_expectKind 59 = .ok (.iconst 1, 1) := by decide +kernel
theorem dX2_expectKind_60 : decode cX2_expectKind 60 = .ok (.invokevirtual 39, 3) := by decide +kernel
theorem dX2_expectKind_63 : decode cX2_expectKind 63 = .ok (.iconst 3, 1) := by decide +kernel
theorem dX2_expectKind_64 : decode cX2_expectKind 64 = .ok (.ireturn, 1) := by decide +kernel
set_option maxRecDepth 20000 in
theorem ggX2_expectSubjects_X9_passes : GoodIn wsX2_expectSubjects wsX9_passes := goodIn_r _ [7, 8, 9, 10, 6, 11, 12, 13, 14, 15, 16, 17, 18, 19, 20, 21, 22, 23, 24, 25, 26, 27, 28, 29, 30, 31, 32, 33, 34, 35, 36, 37, 38, 39, 40, 41, 42, 43, 44, 45, 46, 47, 48, 49, 50, 51, 52, 53, 54, 55, 56, 57, 58, 59, 60, 61, 62, 63, 64, 65, 66, 67, 68, 69, 70, 71, 72, 80, 81, 82, 83, 84, 85, 86, 87] (by decide +kernel) (by decide +kernel)
set_option maxRecDepth 20000 in
theorem gX2_expectSubjects_X9_passes : GoodIn wsX2_expectSubjects (wsV RX2 177 RX9 yX9_passes wsX9_passes) := goodIn_app (goodIn_of _ (by decide +kernel)) ggX2_expectSubjects_X9_passes
set_option maxRecDepth 20000 in
theorem ggX2_expectSubjects_X9_fail : GoodIn wsX2_expectSubjects wsX9_fail := goodIn_r _ [76, 12, 15, 77, 80, 81, 82, 83, 84, 85, 86, 87] (by decide +kernel) (by decide +kernel)
set_option maxRecDepth 20000 in
theorem gX2_expectSubjects_X9_fail : GoodIn wsX2_expectSubjects (wsV RX2 39 RX9 yX9_fail wsX9_fail) := goodIn_app (goodIn_of _ (by decide +kernel)) ggX2_expectSubjects_X9_fail
theorem dX2_expectSubjects_0 : decode cX2_expectSubjects 0 = .ok (.iconst 0, 1) := by decide +kernel
theorem dX2_expectSubjects_1 : decode cX2_expectSubjects 1 = .ok (.istore_n 1, 1) := by decide +kernel
theorem dX2_expectSubjects_2 : decode cX2_expectSubjects 2 = .ok (.iconst 0, 1) := by decide +kernel
theorem dX2_expectSubjects_3 : decode cX2_expectSubjects 3 = .ok (.istore_n 2, 1) := by decide +kernel
theorem dX2_expectSubjects_4 : decode cX2_expectSubjects 4 = .ok (.iload_n 2, 1) := by decide +kernel
theorem dX2_expectSubjects_5 : decode cX2_expectSubjects 5 = .ok (.aload_n 0, 1) := by decide +kernel
theorem dX2_expectSubjects_6 : decode cX2_expectSubjects 6 = .ok (.getfield 18, 3) := by decide +kernel
theorem dX2_expectSubjects_9 : decode cX2_expectSubjects 9 = .ok (.getfield 271, 3) := by decide +kernel
theorem dX2_expectSubjects_12 : decode cX2_expectSubjects 12 = .ok (.arraylength, 1) := by decide +kernel
theorem dX2_expectSubjects_13 : decode cX2_expectSubjects 13 = .ok (.if_icmp .ge 93, 3) := by decide +kernel
theorem dX2_expectSubjects_16 : decode cX2_expectSubjects 16 = .ok (.aload_n 0, 1) := by decide +kernel
theorem dX2_expectSubjects_17 : decode cX2_expectSubjects 17 = .ok (.getfield 18, 3) := by decide +kernel
theorem dX2_expectSubjects_20 : decode cX2_expectSubjects 20 = .ok (.ldc_w 275, 3) := by decide +kernel
theorem dX2_expectSubjects_23 : decode cX2_expectSubjects 23 = .ok (.invokevirtual 177, 3) := by decide +kernel
theorem dX2_expectSubjects_26 : decode cX2_expectSubjects 26 = .ok (.ifCond .eq 7, 3) := by decide +kernel
theorem dX2_expectSubjects_29 : decode cX2_expectSubjects 29 = .ok (.iconst 0, 1) := by decide +kernel
theorem dX2_expectSubjects_30 : decode cX2_expectSubjects 30 = .ok (.goto 55, 3) := by decide +kernel
theorem dX2_expectSubjects_33 : decode cX2_expectSubjects 33 = .ok (.aload_n 0, 1) := by decide +kernel
theorem dX2_expectSubjects_34 : decode cX2_expectSubjects 34 = .ok (.getfield 18, 3) := by decide +kernel
theorem dX2_expectSubjects_37 : decode cX2_expectSubjects 37 = .ok (.ldc_w 277, 3) := by decide +kernel
theorem dX2_expectSubjects_40 : decode cX2_expectSubjects 40 = .ok (.invokevirtual 177, 3) := by decide +kernel
theorem dX2_expectSubjects_43 : decode cX2_expectSubjects 43 = .ok (.ifCond .eq 7, 3) := by decide +kernel
theorem dX2_expectSubjects_46 : decode cX2_expectSubjects 46 = .ok (.iconst 1, 1) := by decide +kernel
theorem dX2_expectSubjects_47 : decode cX2_expectSubjects 47 = .ok (.goto 38, 3) := by decide +kernel
theorem dX2_expectSubjects_50 : decode cX2_expectSubjects 50 = .ok (.aload_n 0, 1) := by decide +kernel
theorem dX2_expectSubjects_51 : decode cX2_expectSubjects 51 = .ok (.getfield 18, 3) := by decide +kernel
theorem dX2_expectSubjects_54 : decode cX2_expectSubjects 54 = .ok (.ldc_w 279, 3) := by decide +kernel
theorem dX2_expectSubjects_57 : decode cX2_expectSubjects 57 = .ok (.invokevirtual 177, 3) := by decide +kernel
theorem dX2_expectSubjects_60 : decode cX2_expectSubjects 60 = .ok (.ifCond .eq 7, 3) := by decide +kernel
theorem dX2_expectSubjects_63 : decode cX2_expectSubjects 63 = .ok (.iconst 2, 1) := by decide +kernel
theorem dX2_expectSubjects_64 : decode cX2_expectSubjects 64 = .ok (.goto 21, 3) := by decide +kernel
theorem dX2_expectSubjects_67 : decode cX2_expectSubjects 67 = .ok (.aload_n 0, 1) := by decide +kernel
theorem dX2_expectSubjects_68 : decode cX2_expectSubjects 68 = .ok (.getfield 18, 3) := by decide +kernel
theorem dX2_expectSubjects_71 : decode cX2_expectSubjects 71 = .ok (.ldc_w 281, 3) := by decide +kernel
theorem dX2_expectSubjects_74 : decode cX2_expectSubjects 74 = .ok (.invokevirtual 177, 3) := by decide +kernel
theorem dX2_expectSubjects_77 : decode cX2_expectSubjects 77 = .ok (.ifCond .eq 7, 3) := by decide +kernel
theorem dX2_expectSubjects_80 : decode cX2_expectSubjects 80 = .ok (.iconst 3, 1) := by decide +kernel
theorem dX2_expectSubjects_81 : decode cX2_expectSubjects 81 = .ok (.goto 4, 3) := by decide +kernel
theorem dX2_expectSubjects_84 : decode cX2_expectSubjects 84 = .ok (.iconst (-1), 1) := by decide +kernel
theorem dX2_expectSubjects_85 : decode cX2_expectSubjects 85 = .ok (.istore_n 3, 1) := by decide +kernel
theorem dX2_expectSubjects_86 : decode cX2_expectSubjects 86 = .ok (.iload_n 3, 1) := by decide +kernel
theorem dX2_expectSubjects_87 : decode cX2_expectSubjects 87 = .ok (.iconst (-1), 1) := by decide +kernel
theorem dX2_expectSubjects_88 : decode cX2_expectSubjects 88 = .ok (.if_icmp .ne 6, 3) := by decide +kernel
theorem dX2_expectSubjects_91 : decode cX2_expectSubjects 91 = .ok (.goto 15, 3) := by decide +kernel
theorem dX2_expectSubjects_94 : decode cX2_expectSubjects 94 = .ok (.iload_n 1, 1) := by decide +kernel
theorem dX2_expectSubjects_95 : decode cX2_expectSubjects 95 = .ok (.iconst 1, 1) := by decide +kernel
theorem dX2_expectSubjects_96 : decode cX2_expectSubjects 96 = .ok (.iload_n 3, 1) := by decide +kernel
theorem dX2_expectSubjects_97 : decode cX2_expectSubjects 97 = .ok (.ishl, 1) := by decide +kernel
theorem dX2_expectSubjects_98 : decode cX2_expectSubjects 98 = .ok (.ior, 1) := by decide +kernel
theorem dX2_expectSubjects_99 : decode cX2_expectSubjects 99 = .ok (.istore_n 1, 1) := by decide +kernel
theorem dX2_expectSubjects_100 : decode cX2_expectSubjects 100 = .ok (.iinc 2 1, 3) := by decide +kernel
theorem dX2_expectSubjects_103 : decode cX2_expectSubjects 103 = .ok (.goto (-99), 3) := by decide +kernel
theorem dX2_expectSubjects_106 : decode cX2_expectSubjects 106 = .ok (.iload_n 1, 1) := by decide +kernel
theorem dX2_expectSubjects_107 : decode cX2_expectSubjects 107 = .ok (.ifCond .ne 11, 3) := by decide +kernel
theorem dX2_expectSubjects_110 : decode cX2_expectSubjects 110 = .ok (.aload_n 0, 1) := by decide +kernel
theorem dX2_expectSubjects_111 : decode cX2_expectSubjects 111 = .ok (.getfield 18, 3) := by decide +kernel
theorem dX2_expectSubjects_114 : decode cX2_expectSubjects 114 = .ok (.iconst 1, 1) := by decide +kernel
theorem dX2_expectSubjects_115 : decode cX2_expectSubjects 115 = .ok (.invokevirtual 39, 3) := by decide +kernel
theorem dX2_expectSubjects_118 : decode cX2_expectSubjects 118 = .ok (.iload_n 1, 1) := by decide +kernel
theorem dX2_expectSubjects_119 : decode cX2_expectSubjects 119 = .ok (.ireturn, 1) := by decide +kernel
theorem dX3_init_0 : decode cX3_init 0 = .ok (.aload_n 0, 1) := by decide +kernel
theorem dX3_init_1 : decode cX3_init 1 = .ok (.invokespecial 3, 3) := by decide +kernel
theorem dX3_init_4 : decode cX3_init 4 = .ok (.aload_n 0, 1) := by decide +kernel
theorem dX3_init_5 : decode cX3_init 5 = .ok (.iconst 0, 1) := by decide +kernel
theorem dX3_init_6 : decode cX3_init 6 = .ok (.putfield 9, 3) := by decide +kernel
theorem dX3_init_9 : decode cX3_init 9 = .ok (.aload_n 0, 1) := by decide +kernel
theorem dX3_init_10 : decode cX3_init 10 = .ok (.iconst 0, 1) := by decide +kernel
theorem dX3_init_11 : decode cX3_init 11 = .ok (.putfield 15, 3) := by decide +kernel
theorem dX3_init_14 : decode cX3_init 14 = .ok (.aload_n 0, 1) := by decide +kernel
theorem dX3_init_15 : decode cX3_init 15 = .ok (.iconst 0, 1) := by decide +kernel
theorem dX3_init_16 : decode cX3_init 16 = .ok (.putfield 18, 3) := by decide +kernel
theorem dX3_init_19 : decode cX3_init 19 = .ok (.aload_n 0, 1) := by decide +kernel
theorem dX3_init_20 : decode cX3_init 20 = .ok (.iconst 0, 1) := by decide +kernel
theorem dX3_init_21 : decode cX3_init 21 = .ok (.putfield 21, 3) := by decide +kernel
theorem dX3_init_24 : decode cX3_init 24 = .ok (.aload_n 0, 1) := by decide +kernel
theorem dX3_init_25 : decode cX3_init 25 = .ok (.iconst 0, 1) := by decide +kernel
theorem dX3_init_26 : decode cX3_init 26 = .ok (.putfield 24, 3) := by decide +kernel
theorem dX3_init_29 : decode cX3_init 29 = .ok (.aload_n 0, 1) := by decide +kernel
theorem dX3_init_30 : decode cX3_init 30 = .ok (.iconst (-1), 1) := by decide +kernel
theorem dX3_init_31 : decode cX3_init 31 = .ok (.putfield 27, 3) := by decide +kernel
theorem dX3_init_34 : decode cX3_init 34 = .ok (.aload_n 0, 1) := by decide +kernel
theorem dX3_init_35 : decode cX3_init 35 = .ok (.iconst 0, 1) := by decide +kernel
theorem dX3_init_36 : decode cX3_init 36 = .ok (.putfield 30, 3) := by decide +kernel
theorem dX3_init_39 : decode cX3_init 39 = .ok (.aload_n 0, 1) := by decide +kernel
theorem dX3_init_40 : decode cX3_init 40 = .ok (.bipush 7, 2) := by decide +kernel
theorem dX3_init_42 : decode cX3_init 42 = .ok (.newarray .int, 2) := by decide +kernel
theorem dX3_init_44 : decode cX3_init 44 = .ok (.putfield 33, 3) := by decide +kernel
theorem dX3_init_47 : decode cX3_init 47 = .ok (.aload_n 0, 1) := by decide +kernel
theorem dX3_init_48 : decode cX3_init 48 = .ok (.bipush 7, 2) := by decide +kernel
theorem dX3_init_50 : decode cX3_init 50 = .ok (.newarray .int, 2) := by decide +kernel
theorem dX3_init_52 : decode cX3_init 52 = .ok (.putfield 37, 3) := by decide +kernel
theorem dX3_init_55 : decode cX3_init 55 = .ok (.aload_n 0, 1) := by decide +kernel
theorem dX3_init_56 : decode cX3_init 56 = .ok (.bipush 7, 2) := by decide +kernel
theorem dX3_init_58 : decode cX3_init 58 = .ok (.newarray .int, 2) := by decide +kernel
theorem dX3_init_60 : decode cX3_init 60 = .ok (.putfield 40, 3) := by decide +kernel
theorem dX3_init_63 : decode cX3_init 63 = .ok (.aload_n 0, 1) := by decide +kernel
theorem dX3_init_64 : decode cX3_init 64 = .ok (.bipush 7, 2) := by decide +kernel
theorem dX3_init_66 : decode cX3_init 66 = .ok (.newarray .int, 2) := by decide +kernel
theorem dX3_init_68 : decode cX3_init 68 = .ok (.putfield 43, 3) := by decide +kernel
theorem dX3_init_71 : decode cX3_init 71 = .ok (.return_, 1) := by decide +kernel
theorem dX3_rightward_0 : decode cX3_rightward 0 = .ok (.iload_n 0, 1) := by decide +kernel
theorem dX3_rightward_1 : decode cX3_rightward 1 = .ok (.ifCond .ne 7, 3) := by decide +kernel
theorem dX3_rightward_4 : decode cX3_rightward 4 = .ok (.iconst 1, 1) := by decide +kernel
theorem dX3_rightward_5 : decode cX3_rightward 5 = .ok (.goto 4, 3) := by decide +kernel
theorem dX3_rightward_8 : decode cX3_rightward 8 = .ok (.iconst 0, 1) := by decide +kernel
theorem dX3_rightward_9 : decode cX3_rightward 9 = .ok (.ireturn, 1) := by decide +kernel
theorem dX3_upward_0 : decode cX3_upward 0 = .ok (.iload_n 0, 1) := by decide +kernel
theorem dX3_upward_1 : decode cX3_upward 1 = .ok (.iconst 1, 1) := by decide +kernel
theorem dX3_upward_2 : decode cX3_upward 2 = .ok (.if_icmp .ne 7, 3) := by decide +kernel
theorem dX3_upward_5 : decode cX3_upward 5 = .ok (.iconst 1, 1) := by decide +kernel
theorem dX3_upward_6 : decode cX3_upward 6 = .ok (.goto 13, 3) := by decide +kernel
theorem dX3_upward_9 : decode cX3_upward 9 = .ok (.iload_n 0, 1) := by decide +kernel
theorem dX3_upward_10 : decode cX3_upward 10 = .ok (.iconst 2, 1) := by decide +kernel
theorem dX3_upward_11 : decode cX3_upward 11 = .ok (.if_icmp .ne 7, 3) := by decide +kernel
theorem dX3_upward_14 : decode cX3_upward 14 = .ok (.iconst (-1), 1) := by decide +kernel
theorem dX3_upward_15 : decode cX3_upward 15 = .ok (.goto 4, 3) := by decide +kernel
theorem dX3_upward_18 : decode cX3_upward 18 = .ok (.iconst 0, 1) := by decide +kernel
theorem dX3_upward_19 : decode cX3_upward 19 = .ok (.ireturn, 1) := by decide +kernel
set_option maxRecDepth 20000 in
theorem ggX3_add_X3_addBend : GoodIn wsX3_add wsX3_addBend := goodIn_r _ [10, 11, 12, 3, 13, 4, 14, 2, 15, 16, 17, 18, 9, 19, 20, 21, 22, 23, 24, 25, 26, 27, 28, 29, 30, 31, 32, 33] (by decide +kernel) (by decide +kernel)
set_option maxRecDepth 20000 in
theorem gX3_add_X3_addBend : GoodIn wsX3_add (wsV RX3 46 RX3 yX3_addBend wsX3_addBend) := goodIn_app (goodIn_of _ (by decide +kernel)) ggX3_add_X3_addBend
set_option maxRecDepth 20000 in
theorem ggX3_add_X3_rightward : GoodIn wsX3_add wsX3_rightward := goodIn_r _ [19] (by decide +kernel) (by decide +kernel)
set_option maxRecDepth 20000 in
theorem gX3_add_X3_rightward : GoodIn wsX3_add (va_wsS RX3 50 yX3_rightward wsX3_rightward) := goodIn_app (goodIn_of _ (by decide +kernel)) ggX3_add_X3_rightward
set_option maxRecDepth 20000 in
theorem ggX3_add_X3_upward : GoodIn wsX3_add wsX3_upward := goodIn_r _ [22] (by decide +kernel) (by decide +kernel)
set_option maxRecDepth 20000 in
theorem gX3_add_X3_upward : GoodIn wsX3_add (va_wsS RX3 54 yX3_upward wsX3_upward) := goodIn_app (goodIn_of _ (by decide +kernel)) ggX3_add_X3_upward
theorem dX3_add_0 : decode cX3_add 0 = .ok (.aload_n 0, 1) := by decide +kernel
theorem dX3_add_1 : decode cX3_add 1 = .ok (.getfield 9, 3) := by decide +kernel
theorem dX3_add_4 : decode cX3_add 4 = .ok (.ifCond .le 16, 3) := by decide +kernel
theorem dX3_add_7 : decode cX3_add 7 = .ok (.iload_n 1, 1) := by decide +kernel
theorem dX3_add_8 : decode cX3_add 8 = .ok (.aload_n 0, 1) := by decide +kernel
theorem dX3_add_9 : decode cX3_add 9 = .ok (.getfield 27, 3) := by decide +kernel
theorem dX3_add_12 : decode cX3_add 12 = .ok (.if_icmp .eq 8, 3) := by decide +kernel
theorem dX3_add_15 : decode cX3_add 15 = .ok (.aload_n 0, 1) := by decide +kernel
theorem dX3_add_16 : decode cX3_add 16 = .ok (.iload_n 1, 1) := by decide +kernel
theorem dX3_add_17 : decode cX3_add 17 = .ok (.invokevirtual 46, 3) := by decide +kernel
theorem dX3_add_20 : decode cX3_add 20 = .ok (.aload_n 0, 1) := by decide +kernel
theorem dX3_add_21 : decode cX3_add 21 = .ok (.dup, 1) := by decide +kernel
theorem dX3_add_22 : decode cX3_add 22 = .ok (.getfield 15, 3) := by decide +kernel
theorem dX3_add_25 : decode cX3_add 25 = .ok (.iload_n 1, 1) := by decide +kernel
theorem dX3_add_26 : decode cX3_add 26 = .ok (.invokestatic 50, 3) := by decide +kernel
theorem dX3_add_29 : decode cX3_add 29 = .ok (.iload_n 2, 1) := by decide +kernel
theorem dX3_add_30 : decode cX3_add 30 = .ok (.imul, 1) := by decide +kernel
theorem dX3_add_31 : decode cX3_add 31 = .ok (.iadd, 1) := by decide +kernel
theorem dX3_add_32 : decode cX3_add 32 = .ok (.putfield 15, 3) := by decide +kernel
theorem dX3_add_35 : decode cX3_add 35 = .ok (.aload_n 0, 1) := by decide +kernel
theorem dX3_add_36 : decode cX3_add 36 = .ok (.dup, 1) := by decide +kernel
theorem dX3_add_37 : decode cX3_add 37 = .ok (.getfield 18, 3) := by decide +kernel
theorem dX3_add_40 : decode cX3_add 40 = .ok (.iload_n 1, 1) := by decide +kernel
theorem dX3_add_41 : decode cX3_add 41 = .ok (.invokestatic 54, 3) := by decide +kernel
theorem dX3_add_44 : decode cX3_add 44 = .ok (.iload_n 2, 1) := by decide +kernel
theorem dX3_add_45 : decode cX3_add 45 = .ok (.imul, 1) := by decide +kernel
theorem dX3_add_46 : decode cX3_add 46 = .ok (.iadd, 1) := by decide +kernel
theorem dX3_add_47 : decode cX3_add 47 = .ok (.putfield 18, 3) := by decide +kernel
theorem dX3_add_50 : decode cX3_add 50 = .ok (.aload_n 0, 1) := by decide +kernel
theorem dX3_add_51 : decode cX3_add 51 = .ok (.dup, 1) := by decide +kernel
theorem dX3_add_52 : decode cX3_add 52 = .ok (.getfield 21, 3) := by decide +kernel
theorem dX3_add_55 : decode cX3_add 55 = .ok (.iload_n 2, 1) := by decide +kernel
theorem dX3_add_56 : decode cX3_add 56 = .ok (.iadd, 1) := by decide +kernel
theorem dX3_add_57 : decode cX3_add 57 = .ok (.putfield 21, 3) := by decide +kernel
theorem dX3_add_60 : decode cX3_add 60 = .ok (.aload_n 0, 1) := by decide +kernel
theorem dX3_add_61 : decode cX3_add 61 = .ok (.iload_n 1, 1) := by decide +kernel
theorem dX3_add_62 : decode cX3_add 62 = .ok (.putfield 27, 3) := by decide +kernel
theorem dX3_add_65 : decode cX3_add 65 = .ok (.aload_n 0, 1) := by decide +kernel
theorem dX3_add_66 : decode cX3_add 66 = .ok (.dup, 1) := by decide +kernel
theorem dX3_add_67 : decode cX3_add 67 = .ok (.getfield 9, 3) := by decide +kernel
theorem dX3_add_70 : decode cX3_add 70 = .ok (.iconst 1, 1) := by decide +kernel
theorem dX3_add_71 : decode cX3_add 71 = .ok (.iadd, 1) := by decide +kernel
theorem dX3_add_72 : decode cX3_add 72 = .ok (.putfield 9, 3) := by decide +kernel
theorem dX3_add_75 : decode cX3_add 75 = .ok (.return_, 1) := by decide +kernel
set_option maxRecDepth 20000 in
theorem ggX3_addBend_X3_rightward : GoodIn wsX3_addBend wsX3_rightward := goodIn_r _ [13] (by decide +kernel) (by decide +kernel)
set_option maxRecDepth 20000 in
theorem gX3_addBend_X3_rightward : GoodIn wsX3_addBend (va_wsS RX3 50 yX3_rightward wsX3_rightward) := goodIn_app (goodIn_of _ (by decide +kernel)) ggX3_addBend_X3_rightward
set_option maxRecDepth 20000 in
theorem ggX3_addBend_X3_upward : GoodIn wsX3_addBend wsX3_upward := goodIn_r _ [16] (by decide +kernel) (by decide +kernel)
set_option maxRecDepth 20000 in
theorem gX3_addBend_X3_upward : GoodIn wsX3_addBend (va_wsS RX3 54 yX3_upward wsX3_upward) := goodIn_app (goodIn_of _ (by decide +kernel)) ggX3_addBend_X3_upward
theorem dX3_addBend_0 : decode cX3_addBend 0 = .ok (.aload_n 0, 1) := by decide +kernel
theorem dX3_addBend_1 : decode cX3_addBend 1 = .ok (.getfield 24, 3) := by decide +kernel
theorem dX3_addBend_4 : decode cX3_addBend 4 = .ok (.ifCond .lt 12, 3) := by decide +kernel
theorem dX3_addBend_7 : decode cX3_addBend 7 = .ok (.aload_n 0, 1) := by decide +kernel
theorem dX3_addBend_8 : decode cX3_addBend 8 = .ok (.getfield 24, 3) := by decide +kernel
theorem dX3_addBend_11 : decode cX3_addBend 11 = .ok (.bipush 7, 2) := by decide +kernel
theorem dX3_addBend_13 : decode cX3_addBend 13 = .ok (.if_icmp .lt 4, 3) := by decide +kernel
theorem dX3_addBend_16 : decode cX3_addBend 16 = .ok (.return_, 1) := by decide +kernel
theorem dX3_addBend_17 : decode cX3_addBend 17 = .ok (.aload_n 0, 1) := by decide +kernel
theorem dX3_addBend_18 : decode cX3_addBend 18 = .ok (.getfield 33, 3) := by decide +kernel
theorem dX3_addBend_21 : decode cX3_addBend 21 = .ok (.aload_n 0, 1) := by decide +kernel
theorem dX3_addBend_22 : decode cX3_addBend 22 = .ok (.getfield 24, 3) := by decide +kernel
theorem dX3_addBend_25 : decode cX3_addBend 25 = .ok (.aload_n 0, 1) := by decide +kernel
theorem dX3_addBend_26 : decode cX3_addBend 26 = .ok (.getfield 15, 3) := by decide +kernel
theorem dX3_addBend_29 : decode cX3_addBend 29 = .ok (.iastore, 1) := by decide +kernel
theorem dX3_addBend_30 : decode cX3_addBend 30 = .ok (.aload_n 0, 1) := by decide +kernel
theorem dX3_addBend_31 : decode cX3_addBend 31 = .ok (.getfield 37, 3) := by decide +kernel
theorem dX3_addBend_34 : decode cX3_addBend 34 = .ok (.aload_n 0, 1) := by decide +kernel
theorem dX3_addBend_35 : decode cX3_addBend 35 = .ok (.getfield 24, 3) := by decide +kernel
theorem dX3_addBend_38 : decode cX3_addBend 38 = .ok (.aload_n 0, 1) := by decide +kernel
theorem dX3_addBend_39 : decode cX3_addBend 39 = .ok (.getfield 18, 3) := by decide +kernel
theorem dX3_addBend_42 : decode cX3_addBend 42 = .ok (.iastore, 1) := by decide +kernel
theorem dX3_addBend_43 : decode cX3_addBend 43 = .ok (.aload_n 0, 1) := by decide +kernel
theorem dX3_addBend_44 : decode cX3_addBend 44 = .ok (.getfield 40, 3) := by decide +kernel
theorem dX3_addBend_47 : decode cX3_addBend 47 = .ok (.aload_n 0, 1) := by decide +kernel
theorem dX3_addBend_48 : decode cX3_addBend 48 = .ok (.getfield 24, 3) := by decide +kernel
theorem dX3_addBend_51 : decode cX3_addBend 51 = .ok (.aload_n 0, 1) := by decide +kernel
theorem dX3_addBend_52 : decode cX3_addBend 52 = .ok (.getfield 27, 3) := by decide +kernel
theorem dX3_addBend_55 : decode cX3_addBend 55 = .ok (.invokestatic 50, 3) := by decide +kernel
theorem dX3_addBend_58 : decode cX3_addBend 58 = .ok (.iload_n 1, 1) := by decide +kernel
theorem dX3_addBend_59 : decode cX3_addBend 59 = .ok (.invokestatic 50, 3) := by decide +kernel
theorem dX3_addBend_62 : decode cX3_addBend 62 = .ok (.isub, 1) := by decide +kernel
theorem dX3_addBend_63 : decode cX3_addBend 63 = .ok (.iastore, 1) := by decide +kernel
theorem dX3_addBend_64 : decode cX3_addBend 64 = .ok (.aload_n 0, 1) := by decide +kernel
theorem dX3_addBend_65 : decode cX3_addBend 65 = .ok (.getfield 43, 3) := by decide +kernel
theorem dX3_addBend_68 : decode cX3_addBend 68 = .ok (.aload_n 0, 1) := by decide +kernel
theorem dX3_addBend_69 : decode cX3_addBend 69 = .ok (.getfield 24, 3) := by decide +kernel
theorem dX3_addBend_72 : decode cX3_addBend 72 = .ok (.aload_n 0, 1) := by decide +kernel
theorem dX3_addBend_73 : decode cX3_addBend 73 = .ok (.getfield 27, 3) := by decide +kernel
theorem dX3_addBend_76 : decode cX3_addBend 76 = .ok (.invokestatic 54, 3) := by decide +kernel
theorem dX3_addBend_79 : decode cX3_addBend 79 = .ok (.iload_n 1, 1) := by decide +kernel
theorem dX3_addBend_80 : decode cX3_addBend 80 = .ok (.invokestatic 54, 3) := by decide +kernel
theorem dX3_addBend_83 : decode cX3_addBend 83 = .ok (.isub, 1) := by decide +kernel
theorem dX3_addBend_84 : decode cX3_addBend 84 = .ok (.iastore, 1) := by decide +kernel
theorem dX3_addBend_85 : decode cX3_addBend 85 = .ok (.aload_n 0, 1) := by decide +kernel
theorem dX3_addBend_86 : decode cX3_addBend 86 = .ok (.dup, 1) := by decide +kernel
theorem dX3_addBend_87 : decode cX3_addBend 87 = .ok (.getfield 30, 3) := by decide +kernel
theorem dX3_addBend_90 : decode cX3_addBend 90 = .ok (.aload_n 0, 1) := by decide +kernel
theorem dX3_addBend_91 : decode cX3_addBend 91 = .ok (.getfield 15, 3) := by decide +kernel
theorem dX3_addBend_94 : decode cX3_addBend 94 = .ok (.aload_n 0, 1) := by decide +kernel
theorem dX3_addBend_95 : decode cX3_addBend 95 = .ok (.getfield 43, 3) := by decide +kernel
theorem dX3_addBend_98 : decode cX3_addBend 98 = .ok (.aload_n 0, 1) := by decide +kernel
theorem dX3_addBend_99 : decode cX3_addBend 99 = .ok (.getfield 24, 3) := by decide +kernel
theorem dX3_addBend_102 : decode cX3_addBend 102 = .ok (.iaload, 1) := by decide +kernel
theorem dX3_addBend_103 : decode cX3_addBend 103 = .ok (.imul, 1) := by decide +kernel
theorem dX3_addBend_104 : decode cX3_addBend 104 = .ok (.aload_n 0, 1) := by decide +kernel
theorem dX3_addBend_105 : decode cX3_addBend 105 = .ok (.getfield 18, 3) := by decide +kernel
theorem dX3_addBend_108 : decode cX3_addBend 108 = .ok (.aload_n 0, 1) := by decide +kernel
theorem dX3_addBend_109 : decode cX3_addBend 109 = .ok (.getfield 40, 3) := by decide +kernel
theorem dX3_addBend_112 : decode cX3_addBend 112 = .ok (.aload_n 0, 1) := by decide +kernel
theorem dX3_addBend_113 : decode cX3_addBend 113 = .ok (.getfield 24, 3) := by decide +kernel
theorem dX3_addBend_116 : decode cX3_addBend 116 = .ok (.iaload, 1) := by decide +kernel
theorem dX3_addBend_117 : decode cX3_addBend 117 = .ok (.imul, 1) := by decide +kernel
theorem dX3_addBend_118 : decode cX3_addBend 118 = .ok (.isub, 1) := by decide +kernel
theorem dX3_addBend_119 : decode cX3_addBend 119 = .ok (.iadd, 1) := by decide +kernel
theorem dX3_addBend_120 : decode cX3_addBend 120 = .ok (.putfield 30, 3) := by decide +kernel
theorem dX3_addBend_123 : decode cX3_addBend 123 = .ok (.aload_n 0, 1) := by decide +kernel
theorem dX3_addBend_124 : decode cX3_addBend 124 = .ok (.dup, 1) := by decide +kernel
theorem dX3_addBend_125 : decode cX3_addBend 125 = .ok (.getfield 24, 3) := by decide +kernel
theorem dX3_addBend_128 : decode cX3_addBend 128 = .ok (.iconst 1, 1) := by decide +kernel
theorem dX3_addBend_129 : decode cX3_addBend 129 = .ok (.iadd, 1) := by decide +kernel
theorem dX3_addBend_130 : decode cX3_addBend 130 = .ok (.putfield 24, 3) := by decide +kernel
theorem dX3_addBend_133 : decode cX3_addBend 133 = .ok (.return_, 1) := by decide +kernel
theorem dX3_leverOfAll_0 : decode cX3_leverOfAll 0 = .ok (.aload_n 0, 1) := by decide +kernel
theorem dX3_leverOfAll_1 : decode cX3_leverOfAll 1 = .ok (.getfield 30, 3) := by decide +kernel
theorem dX3_leverOfAll_4 : decode cX3_leverOfAll 4 = .ok (.invokestatic 57, 3) := by decide +kernel
theorem dX3_leverOfAll_7 : decode cX3_leverOfAll 7 = .ok (.ireturn, 1) := by decide +kernel
theorem dX3_ofBend_0 : decode cX3_ofBend 0 = .ok (.iload_n 1, 1) := by decide +kernel
theorem dX3_ofBend_1 : decode cX3_ofBend 1 = .ok (.ifCond .lt 17, 3) := by decide +kernel
theorem dX3_ofBend_4 : decode cX3_ofBend 4 = .ok (.iload_n 1, 1) := by decide +kernel
theorem dX3_ofBend_5 : decode cX3_ofBend 5 = .ok (.aload_n 0, 1) := by decide +kernel
theorem dX3_ofBend_6 : decode cX3_ofBend 6 = .ok (.getfield 24, 3) := by decide +kernel
theorem dX3_ofBend_9 : decode cX3_ofBend 9 = .ok (.if_icmp .ge 9, 3) := by decide +kernel
theorem dX3_ofBend_12 : decode cX3_ofBend 12 = .ok (.iload_n 1, 1) := by decide +kernel
theorem dX3_ofBend_13 : decode cX3_ofBend 13 = .ok (.bipush 7, 2) := by decide +kernel
theorem dX3_ofBend_15 : decode cX3_ofBend 15 = .ok (.if_icmp .lt 6, 3) := by decide +kernel
theorem dX3_ofBend_18 : decode cX3_ofBend 18 = .ok (.ldc 62, 2) := by decide +kernel
theorem dX3_ofBend_20 : decode cX3_ofBend 20 = .ok (.ireturn, 1) := by decide +kernel
theorem dX3_ofBend_21 : decode cX3_ofBend 21 = .ok (.iload_n 2, 1) := by decide +kernel
theorem dX3_ofBend_22 : decode cX3_ofBend 22 = .ok (.tableswitch 58 0 3 #[30, 37, 44, 51], 30) := by decide +kernel
theorem dX3_ofBend_52 : decode cX3_ofBend 52 = .ok (.aload_n 0, 1) := by decide +kernel
theorem dX3_ofBend_53 : decode cX3_ofBend 53 = .ok (.getfield 33, 3) := by decide +kernel
theorem dX3_ofBend_56 : decode cX3_ofBend 56 = .ok (.iload_n 1, 1) := by decide +kernel
theorem dX3_ofBend_57 : decode cX3_ofBend 57 = .ok (.iaload, 1) := by decide +kernel
theorem dX3_ofBend_58 : decode cX3_ofBend 58 = .ok (.ireturn, 1) := by decide +kernel
theorem dX3_ofBend_59 : decode cX3_ofBend 59 = .ok (.aload_n 0, 1) := by decide +kernel
theorem dX3_ofBend_60 : decode cX3_ofBend 60 = .ok (.getfield 37, 3) := by decide +kernel
theorem dX3_ofBend_63 : decode cX3_ofBend 63 = .ok (.iload_n 1, 1) := by decide +kernel
theorem dX3_ofBend_64 : decode cX3_ofBend 64 = .ok (.iaload, 1) := by decide +kernel
theorem dX3_ofBend_65 : decode cX3_ofBend 65 = .ok (.ireturn, 1) := by decide +kernel
theorem dX3_ofBend_66 : decode cX3_ofBend 66 = .ok (.aload_n 0, 1) := by decide +kernel
theorem dX3_ofBend_67 : decode cX3_ofBend 67 = .ok (.getfield 40, 3) := by decide +kernel
theorem dX3_ofBend_70 : decode cX3_ofBend 70 = .ok (.iload_n 1, 1) := by decide +kernel
theorem dX3_ofBend_71 : decode cX3_ofBend 71 = .ok (.iaload, 1) := by decide +kernel
theorem dX3_ofBend_72 : decode cX3_ofBend 72 = .ok (.ireturn, 1) := by decide +kernel
theorem dX3_ofBend_73 : decode cX3_ofBend 73 = .ok (.aload_n 0, 1) := by decide +kernel
theorem dX3_ofBend_74 : decode cX3_ofBend 74 = .ok (.getfield 43, 3) := by decide +kernel
theorem dX3_ofBend_77 : decode cX3_ofBend 77 = .ok (.iload_n 1, 1) := by decide +kernel
theorem dX3_ofBend_78 : decode cX3_ofBend 78 = .ok (.iaload, 1) := by decide +kernel
theorem dX3_ofBend_79 : decode cX3_ofBend 79 = .ok (.ireturn, 1) := by decide +kernel
theorem dX3_ofBend_80 : decode cX3_ofBend 80 = .ok (.ldc 62, 2) := by decide +kernel
theorem dX3_ofBend_82 : decode cX3_ofBend 82 = .ok (.ireturn, 1) := by decide +kernel
set_option maxRecDepth 20000 in
theorem ggX3_takeMoves_X7_at : GoodIn wsX3_takeMoves wsX7_at := goodIn_r _ [14, 15, 47, 48, 49, 50] (by decide +kernel) (by decide +kernel)
set_option maxRecDepth 20000 in
theorem gX3_takeMoves_X7_at : GoodIn wsX3_takeMoves (wsV RX3 68 RX7 yX7_at wsX7_at) := goodIn_app (goodIn_of _ (by decide +kernel)) ggX3_takeMoves_X7_at
set_option maxRecDepth 20000 in
theorem ggX3_takeMoves_X3_add : GoodIn wsX3_takeMoves wsX3_add := goodIn_r _ [20, 1, 21, 2, 3, 4, 22, 23, 24, 19, 25, 5, 26, 27, 28, 29, 6, 30, 31, 32, 33, 34, 35, 36, 37, 38, 39, 40, 41, 42, 43, 44, 45, 46] (by decide +kernel) (by decide +kernel)
set_option maxRecDepth 20000 in
theorem gX3_takeMoves_X3_add : GoodIn wsX3_takeMoves (wsV RX3 76 RX3 yX3_add wsX3_add) := goodIn_app (goodIn_of _ (by decide +kernel)) ggX3_takeMoves_X3_add
theorem dX3_takeMoves_0 : decode cX3_takeMoves 0 = .ok (.aload_n 0, 1) := by decide +kernel
theorem dX3_takeMoves_1 : decode cX3_takeMoves 1 = .ok (.iconst 0, 1) := by decide +kernel
theorem dX3_takeMoves_2 : decode cX3_takeMoves 2 = .ok (.putfield 9, 3) := by decide +kernel
theorem dX3_takeMoves_5 : decode cX3_takeMoves 5 = .ok (.aload_n 0, 1) := by decide +kernel
theorem dX3_takeMoves_6 : decode cX3_takeMoves 6 = .ok (.iconst 0, 1) := by decide +kernel
theorem dX3_takeMoves_7 : decode cX3_takeMoves 7 = .ok (.putfield 15, 3) := by decide +kernel
theorem dX3_takeMoves_10 : decode cX3_takeMoves 10 = .ok (.aload_n 0, 1) := by decide +kernel
theorem dX3_takeMoves_11 : decode cX3_takeMoves 11 = .ok (.iconst 0, 1) := by decide +kernel
theorem dX3_takeMoves_12 : decode cX3_takeMoves 12 = .ok (.putfield 18, 3) := by decide +kernel
theorem dX3_takeMoves_15 : decode cX3_takeMoves 15 = .ok (.aload_n 0, 1) := by decide +kernel
theorem dX3_takeMoves_16 : decode cX3_takeMoves 16 = .ok (.iconst 0, 1) := by decide +kernel
theorem dX3_takeMoves_17 : decode cX3_takeMoves 17 = .ok (.putfield 21, 3) := by decide +kernel
theorem dX3_takeMoves_20 : decode cX3_takeMoves 20 = .ok (.aload_n 0, 1) := by decide +kernel
theorem dX3_takeMoves_21 : decode cX3_takeMoves 21 = .ok (.iconst 0, 1) := by decide +kernel
theorem dX3_takeMoves_22 : decode cX3_takeMoves 22 = .ok (.putfield 24, 3) := by decide +kernel
theorem dX3_takeMoves_25 : decode cX3_takeMoves 25 = .ok (.aload_n 0, 1) := by decide +kernel
theorem dX3_takeMoves_26 : decode cX3_takeMoves 26 = .ok (.iconst 0, 1) := by decide +kernel
theorem dX3_takeMoves_27 : decode cX3_takeMoves 27 = .ok (.putfield 30, 3) := by decide +kernel
theorem dX3_takeMoves_30 : decode cX3_takeMoves 30 = .ok (.aload_n 1, 1) := by decide +kernel
theorem dX3_takeMoves_31 : decode cX3_takeMoves 31 = .ok (.getfield 63, 3) := by decide +kernel
theorem dX3_takeMoves_34 : decode cX3_takeMoves 34 = .ok (.iconst 2, 1) := by decide +kernel
theorem dX3_takeMoves_35 : decode cX3_takeMoves 35 = .ok (.idiv, 1) := by decide +kernel
theorem dX3_takeMoves_36 : decode cX3_takeMoves 36 = .ok (.istore_n 2, 1) := by decide +kernel
theorem dX3_takeMoves_37 : decode cX3_takeMoves 37 = .ok (.iload_n 2, 1) := by decide +kernel
theorem dX3_takeMoves_38 : decode cX3_takeMoves 38 = .ok (.iconst 1, 1) := by decide +kernel
theorem dX3_takeMoves_39 : decode cX3_takeMoves 39 = .ok (.if_icmp .lt 9, 3) := by decide +kernel
theorem dX3_takeMoves_42 : decode cX3_takeMoves 42 = .ok (.iload_n 2, 1) := by decide +kernel
theorem dX3_takeMoves_43 : decode cX3_takeMoves 43 = .ok (.bipush 8, 2) := by decide +kernel
theorem dX3_takeMoves_45 : decode cX3_takeMoves 45 = .ok (.if_icmp .le 5, 3) := by decide +kernel
theorem dX3_takeMoves_48 : decode cX3_takeMoves 48 = .ok (.iconst 0, 1) := by decide +kernel
theorem dX3_takeMoves_49 : decode cX3_takeMoves 49 = .ok (.ireturn, 1) := by decide +kernel
theorem dX3_takeMoves_50 : decode cX3_takeMoves 50 = .ok (.iconst 0, 1) := by decide +kernel
theorem dX3_takeMoves_51 : decode cX3_takeMoves 51 = .ok (.istore_n 3, 1) := by decide +kernel
theorem dX3_takeMoves_52 : decode cX3_takeMoves 52 = .ok (.iload_n 3, 1) := by decide +kernel
theorem dX3_takeMoves_53 : decode cX3_takeMoves 53 = .ok (.iload_n 2, 1) := by decide +kernel
theorem dX3_takeMoves_54 : decode cX3_takeMoves 54 = .ok (.if_icmp .ge 73, 3) := by decide +kernel
theorem dX3_takeMoves_57 : decode cX3_takeMoves 57 = .ok (.aload_n 1, 1) := by decide +kernel
theorem dX3_takeMoves_58 : decode cX3_takeMoves 58 = .ok (.iconst 2, 1) := by decide +kernel
theorem dX3_takeMoves_59 : decode cX3_takeMoves 59 = .ok (.iload_n 3, 1) := by decide +kernel
theorem dX3_takeMoves_60 : decode cX3_takeMoves 60 = .ok (.imul, 1) := by decide +kernel
theorem dX3_takeMoves_61 : decode cX3_takeMoves 61 = .ok (.invokevirtual 68, 3) := by decide +kernel
theorem dX3_takeMoves_64 : decode cX3_takeMoves 64 = .ok (.lstore 4, 2) := by decide +kernel
theorem dX3_takeMoves_66 : decode cX3_takeMoves 66 = .ok (.aload_n 1, 1) := by decide +kernel
theorem dX3_takeMoves_67 : decode cX3_takeMoves 67 = .ok (.iconst 2, 1) := by decide +kernel
theorem dX3_takeMoves_68 : decode cX3_takeMoves 68 = .ok (.iload_n 3, 1) := by decide +kernel
theorem dX3_takeMoves_69 : decode cX3_takeMoves 69 = .ok (.imul, 1) := by decide +kernel
theorem dX3_takeMoves_70 : decode cX3_takeMoves 70 = .ok (.iconst 1, 1) := by decide +kernel
theorem dX3_takeMoves_71 : decode cX3_takeMoves 71 = .ok (.iadd, 1) := by decide +kernel
theorem dX3_takeMoves_72 : decode cX3_takeMoves 72 = .ok (.invokevirtual 68, 3) := by decide +kernel
theorem dX3_takeMoves_75 : decode cX3_takeMoves 75 = .ok (.lstore 6, 2) := by decide +kernel
theorem dX3_takeMoves_77 : decode cX3_takeMoves 77 = .ok (.lload 4, 2) := by decide +kernel
theorem dX3_takeMoves_79 : decode cX3_takeMoves 79 = .ok (.lconst 0, 1) := by decide +kernel
theorem dX3_takeMoves_80 : decode cX3_takeMoves 80 = .ok (.lcmp, 1) := by decide +kernel
theorem dX3_takeMoves_81 : decode cX3_takeMoves 81 = .ok (.ifCond .lt 28, 3) := by decide +kernel
theorem dX3_takeMoves_84 : decode cX3_takeMoves 84 = .ok (.lload 4, 2) := by decide +kernel
theorem dX3_takeMoves_86 : decode cX3_takeMoves 86 = .ok (.ldc2_w 72, 3) := by decide +kernel
theorem dX3_takeMoves_89 : decode cX3_takeMoves 89 = .ok (.lcmp, 1) := by decide +kernel
theorem dX3_takeMoves_90 : decode cX3_takeMoves 90 = .ok (.ifCond .gt 19, 3) := by decide +kernel
theorem dX3_takeMoves_93 : decode cX3_takeMoves 93 = .ok (.lload 6, 2) := by decide +kernel
theorem dX3_takeMoves_95 : decode cX3_takeMoves 95 = .ok (.lconst 1, 1) := by decide +kernel
theorem dX3_takeMoves_96 : decode cX3_takeMoves 96 = .ok (.lcmp, 1) := by decide +kernel
theorem dX3_takeMoves_97 : decode cX3_takeMoves 97 = .ok (.ifCond .lt 12, 3) := by decide +kernel
theorem dX3_takeMoves_100 : decode cX3_takeMoves 100 = .ok (.lload 6, 2) := by decide +kernel
theorem dX3_takeMoves_102 : decode cX3_takeMoves 102 = .ok (.ldc2_w 74, 3) := by decide +kernel
theorem dX3_takeMoves_105 : decode cX3_takeMoves 105 = .ok (.lcmp, 1) := by decide +kernel
theorem dX3_takeMoves_106 : decode cX3_takeMoves 106 = .ok (.ifCond .le 5, 3) := by decide +kernel
theorem dX3_takeMoves_109 : decode cX3_takeMoves 109 = .ok (.iconst 0, 1) := by decide +kernel
theorem dX3_takeMoves_110 : decode cX3_takeMoves 110 = .ok (.ireturn, 1) := by decide +kernel
theorem dX3_takeMoves_111 : decode cX3_takeMoves 111 = .ok (.aload_n 0, 1) := by decide +kernel
theorem dX3_takeMoves_112 : decode cX3_takeMoves 112 = .ok (.lload 4, 2) := by decide +kernel
theorem dX3_takeMoves_114 : decode cX3_takeMoves 114 = .ok (.l2i, 1) := by decide +kernel
theorem dX3_takeMoves_115 : decode cX3_takeMoves 115 = .ok (.lload 6, 2) := by decide +kernel
theorem dX3_takeMoves_117 : decode cX3_takeMoves 117 = .ok (.l2i, 1) := by decide +kernel
theorem dX3_takeMoves_118 : decode cX3_takeMoves 118 = .ok (.invokevirtual 76, 3) := by decide +kernel
theorem dX3_takeMoves_121 : decode cX3_takeMoves 121 = .ok (.iinc 3 1, 3) := by decide +kernel
theorem dX3_takeMoves_124 : decode cX3_takeMoves 124 = .ok (.goto (-72), 3) := by decide +kernel
theorem dX3_takeMoves_127 : decode cX3_takeMoves 127 = .ok (.iconst 1, 1) := by decide +kernel
theorem dX3_takeMoves_128 : decode cX3_takeMoves 128 = .ok (.ireturn, 1) := by decide +kernel
theorem dX4_init_0 : decode cX4_init 0 = .ok (.aload_n 0, 1) := by decide +kernel
theorem dX4_init_1 : decode cX4_init 1 = .ok (.invokespecial 3, 3) := by decide +kernel
theorem dX4_init_4 : decode cX4_init 4 = .ok (.aload_n 0, 1) := by decide +kernel
theorem dX4_init_5 : decode cX4_init 5 = .ok (.iconst 0, 1) := by decide +kernel
theorem dX4_init_6 : decode cX4_init 6 = .ok (.putfield 9, 3) := by decide +kernel
theorem dX4_init_9 : decode cX4_init 9 = .ok (.aload_n 0, 1) := by decide +kernel
theorem dX4_init_10 : decode cX4_init 10 = .ok (.iconst 0, 1) := by decide +kernel
theorem dX4_init_11 : decode cX4_init 11 = .ok (.putfield 15, 3) := by decide +kernel
theorem dX4_init_14 : decode cX4_init 14 = .ok (.aload_n 0, 1) := by decide +kernel
theorem dX4_init_15 : decode cX4_init 15 = .ok (.iconst 0, 1) := by decide +kernel
theorem dX4_init_16 : decode cX4_init 16 = .ok (.putfield 18, 3) := by decide +kernel
theorem dX4_init_19 : decode cX4_init 19 = .ok (.aload_n 0, 1) := by decide +kernel
theorem dX4_init_20 : decode cX4_init 20 = .ok (.bipush 12, 2) := by decide +kernel
theorem dX4_init_22 : decode cX4_init 22 = .ok (.newarray .int, 2) := by decide +kernel
theorem dX4_init_24 : decode cX4_init 24 = .ok (.putfield 21, 3) := by decide +kernel
theorem dX4_init_27 : decode cX4_init 27 = .ok (.aload_n 0, 1) := by decide +kernel
theorem dX4_init_28 : decode cX4_init 28 = .ok (.bipush 12, 2) := by decide +kernel
theorem dX4_init_30 : decode cX4_init 30 = .ok (.newarray .int, 2) := by decide +kernel
theorem dX4_init_32 : decode cX4_init 32 = .ok (.putfield 25, 3) := by decide +kernel
theorem dX4_init_35 : decode cX4_init 35 = .ok (.aload_n 0, 1) := by decide +kernel
theorem dX4_init_36 : decode cX4_init 36 = .ok (.bipush 12, 2) := by decide +kernel
theorem dX4_init_38 : decode cX4_init 38 = .ok (.newarray .int, 2) := by decide +kernel
theorem dX4_init_40 : decode cX4_init 40 = .ok (.putfield 28, 3) := by decide +kernel
theorem dX4_init_43 : decode cX4_init 43 = .ok (.aload_n 0, 1) := by decide +kernel
theorem dX4_init_44 : decode cX4_init 44 = .ok (.bipush 20, 2) := by decide +kernel
theorem dX4_init_46 : decode cX4_init 46 = .ok (.newarray .int, 2) := by decide +kernel
theorem dX4_init_48 : decode cX4_init 48 = .ok (.putfield 31, 3) := by decide +kernel
theorem dX4_init_51 : decode cX4_init 51 = .ok (.aload_n 0, 1) := by decide +kernel
theorem dX4_init_52 : decode cX4_init 52 = .ok (.bipush 20, 2) := by decide +kernel
theorem dX4_init_54 : decode cX4_init 54 = .ok (.newarray .int, 2) := by decide +kernel
theorem dX4_init_56 : decode cX4_init 56 = .ok (.putfield 34, 3) := by decide +kernel
theorem dX4_init_59 : decode cX4_init 59 = .ok (.aload_n 0, 1) := by decide +kernel
theorem dX4_init_60 : decode cX4_init 60 = .ok (.bipush 20, 2) := by decide +kernel
theorem dX4_init_62 : decode cX4_init 62 = .ok (.newarray .int, 2) := by decide +kernel
theorem dX4_init_64 : decode cX4_init 64 = .ok (.putfield 37, 3) := by decide +kernel
theorem dX4_init_67 : decode cX4_init 67 = .ok (.aload_n 0, 1) := by decide +kernel
theorem dX4_init_68 : decode cX4_init 68 = .ok (.bipush 17, 2) := by decide +kernel
theorem dX4_init_70 : decode cX4_init 70 = .ok (.newarray .long, 2) := by decide +kernel
theorem dX4_init_72 : decode cX4_init 72 = .ok (.putfield 40, 3) := by decide +kernel
theorem dX4_init_75 : decode cX4_init 75 = .ok (.aload_n 0, 1) := by decide +kernel
theorem dX4_init_76 : decode cX4_init 76 = .ok (.bipush 16, 2) := by decide +kernel
theorem dX4_init_78 : decode cX4_init 78 = .ok (.newarray .long, 2) := by decide +kernel
theorem dX4_init_80 : decode cX4_init 80 = .ok (.putfield 44, 3) := by decide +kernel
theorem dX4_init_83 : decode cX4_init 83 = .ok (.return_, 1) := by decide +kernel
theorem dX4_addPerson_0 : decode cX4_addPerson 0 = .ok (.aload_n 0, 1) := by decide +kernel
theorem dX4_addPerson_1 : decode cX4_addPerson 1 = .ok (.getfield 9, 3) := by decide +kernel
theorem dX4_addPerson_4 : decode cX4_addPerson 4 = .ok (.ifCond .lt 12, 3) := by decide +kernel
theorem dX4_addPerson_7 : decode cX4_addPerson 7 = .ok (.aload_n 0, 1) := by decide +kernel
theorem dX4_addPerson_8 : decode cX4_addPerson 8 = .ok (.getfield 9, 3) := by decide +kernel
theorem dX4_addPerson_11 : decode cX4_addPerson 11 = .ok (.bipush 12, 2) := by decide +kernel
theorem dX4_addPerson_13 : decode cX4_addPerson 13 = .ok (.if_icmp .lt 4, 3) := by decide +kernel
theorem dX4_addPerson_16 : decode cX4_addPerson 16 = .ok (.return_, 1) := by decide +kernel
theorem dX4_addPerson_17 : decode cX4_addPerson 17 = .ok (.aload_n 0, 1) := by decide +kernel
theorem dX4_addPerson_18 : decode cX4_addPerson 18 = .ok (.getfield 21, 3) := by decide +kernel
