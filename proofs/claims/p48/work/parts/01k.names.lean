theorem dX12_readChange_59 : decode cX12_readChange 59 = .ok (.invokevirtual 237, 3) := by decide +kernel
theorem dX12_readChange_62 : decode cX12_readChange 62 = .ok (.iastore, 1) := by decide +kernel
theorem dX12_readChange_63 : decode cX12_readChange 63 = .ok (.aload_n 0, 1) := by decide +kernel
theorem dX12_readChange_64 : decode cX12_readChange 64 = .ok (.invokevirtual 122, 3) := by decide +kernel
theorem dX12_readChange_67 : decode cX12_readChange 67 = .ok (.ifCond .eq 13, 3) := by decide +kernel
theorem dX12_readChange_70 : decode cX12_readChange 70 = .ok (.aload_n 0, 1) := by decide +kernel
theorem dX12_readChange_71 : decode cX12_readChange 71 = .ok (.getfield 34, 3) := by decide +kernel
theorem dX12_readChange_74 : decode cX12_readChange 74 = .ok (.iconst 5, 1) := by decide +kernel
theorem dX12_readChange_75 : decode cX12_readChange 75 = .ok (.dup2, 1) := by decide +kernel
theorem dX12_readChange_76 : decode cX12_readChange 76 = .ok (.iaload, 1) := by decide +kernel
theorem dX12_readChange_77 : decode cX12_readChange 77 = .ok (.iconst 1, 1) := by decide +kernel
theorem dX12_readChange_78 : decode cX12_readChange 78 = .ok (.iadd, 1) := by decide +kernel
theorem dX12_readChange_79 : decode cX12_readChange 79 = .ok (.iastore, 1) := by decide +kernel
theorem dX12_readChange_80 : decode cX12_readChange 80 = .ok (.return_, 1) := by decide +kernel
set_option maxRecDepth 20000 in
theorem ggX12_readWind_X12_is : GoodIn wsX12_readWind wsX12_is := goodIn_r _ [7, 8, 9, 10, 11, 12, 13, 14, 6, 15, 16, 17, 18, 19, 20, 21, 22, 23, 24, 25, 26, 27, 28, 29, 30, 31, 32, 33, 34, 35, 36, 37, 38, 39, 40, 41, 42, 43, 44, 45, 46, 47, 48, 49, 50, 51, 52, 53, 54, 55, 56, 57, 58, 59, 60, 61, 62, 63, 64, 65, 101, 102, 103, 104, 105, 106, 107, 108, 109, 110, 111, 112, 113, 114, 115, 116, 117, 118, 119, 120, 121, 122, 123, 124, 125, 126, 127, 128, 129, 130, 131, 132, 133, 134] (by decide +kernel) (by decide +kernel)
set_option maxRecDepth 20000 in
theorem gX12_readWind_X12_is : GoodIn wsX12_readWind (wsV RX12 136 RX12 yX12_is wsX12_is) := goodIn_app (goodIn_of _ (by decide +kernel)) ggX12_readWind_X12_is
set_option maxRecDepth 20000 in
theorem ggX12_readWind_X12_taken : GoodIn wsX12_readWind wsX12_taken := goodIn_r _ [69, 70, 71, 72, 6, 73, 16, 10, 74, 12, 13, 14, 15, 75, 76, 77, 78, 9, 8, 79, 80, 81, 82, 83, 84, 85, 86, 87, 88, 89, 90, 91, 92, 93, 11, 94, 95, 96, 101, 102, 103, 104, 105, 106, 107, 108, 109, 110, 111, 112, 113, 114, 115, 116, 117, 118, 119, 120, 121, 122, 123, 124, 125, 126, 127, 128, 129, 130, 131, 132, 133, 134] (by decide +kernel) (by decide +kernel)
set_option maxRecDepth 20000 in
theorem gX12_readWind_X12_taken : GoodIn wsX12_readWind (wsV RX12 182 RX12 yX12_taken wsX12_taken) := goodIn_app (goodIn_of _ (by decide +kernel)) ggX12_readWind_X12_taken
set_option maxRecDepth 20000 in
theorem ggX12_readWind_X12_number : GoodIn wsX12_readWind wsX12_number := goodIn_r _ [100, 8, 83, 12, 13, 14, 6, 15, 16, 70, 71, 72, 73, 10, 74, 94, 95, 96, 75, 76, 77, 78, 9, 79, 80, 81, 82, 84, 85, 86, 87, 88, 89, 90, 91, 92, 93, 11, 101, 102, 103, 104, 105, 106, 107, 108, 109, 110, 111, 112, 113, 114, 115, 116, 117, 118, 119, 120, 121, 122, 123, 124, 125, 126, 127, 128, 129, 130, 131, 132, 133, 134] (by decide +kernel) (by decide +kernel)
set_option maxRecDepth 20000 in
theorem gX12_readWind_X12_number : GoodIn wsX12_readWind (wsV RX12 154 RX12 yX12_number wsX12_number) := goodIn_app (goodIn_of _ (by decide +kernel)) ggX12_readWind_X12_number
theorem dX12_readWind_0 : decode cX12_readWind 0 = .ok (.aload_n 0, 1) := by decide +kernel
theorem dX12_readWind_1 : decode cX12_readWind 1 = .ok (.getfield 34, 3) := by decide +kernel
theorem dX12_readWind_4 : decode cX12_readWind 4 = .ok (.bipush 7, 2) := by decide +kernel
theorem dX12_readWind_6 : decode cX12_readWind 6 = .ok (.aload_n 0, 1) := by decide +kernel
theorem dX12_readWind_7 : decode cX12_readWind 7 = .ok (.aload_n 0, 1) := by decide +kernel
theorem dX12_readWind_8 : decode cX12_readWind 8 = .ok (.ldc 249, 2) := by decide +kernel
theorem dX12_readWind_10 : decode cX12_readWind 10 = .ok (.invokevirtual 136, 3) := by decide +kernel
theorem dX12_readWind_13 : decode cX12_readWind 13 = .ok (.ifCond .eq 7, 3) := by decide +kernel
theorem dX12_readWind_16 : decode cX12_readWind 16 = .ok (.iconst 0, 1) := by decide +kernel
theorem dX12_readWind_17 : decode cX12_readWind 17 = .ok (.goto 43, 3) := by decide +kernel
theorem dX12_readWind_20 : decode cX12_readWind 20 = .ok (.aload_n 0, 1) := by decide +kernel
theorem dX12_readWind_21 : decode cX12_readWind 21 = .ok (.ldc 157, 2) := by decide +kernel
theorem dX12_readWind_23 : decode cX12_readWind 23 = .ok (.invokevirtual 136, 3) := by decide +kernel
theorem dX12_readWind_26 : decode cX12_readWind 26 = .ok (.ifCond .eq 7, 3) := by decide +kernel
theorem dX12_readWind_29 : decode cX12_readWind 29 = .ok (.iconst 1, 1) := by decide +kernel
theorem dX12_readWind_30 : decode cX12_readWind 30 = .ok (.goto 30, 3) := by decide +kernel
theorem dX12_readWind_33 : decode cX12_readWind 33 = .ok (.aload_n 0, 1) := by decide +kernel
theorem dX12_readWind_34 : decode cX12_readWind 34 = .ok (.ldc 159, 2) := by decide +kernel
theorem dX12_readWind_36 : decode cX12_readWind 36 = .ok (.invokevirtual 136, 3) := by decide +kernel
theorem dX12_readWind_39 : decode cX12_readWind 39 = .ok (.ifCond .eq 7, 3) := by decide +kernel
theorem dX12_readWind_42 : decode cX12_readWind 42 = .ok (.iconst 2, 1) := by decide +kernel
theorem dX12_readWind_43 : decode cX12_readWind 43 = .ok (.goto 17, 3) := by decide +kernel
theorem dX12_readWind_46 : decode cX12_readWind 46 = .ok (.aload_n 0, 1) := by decide +kernel
theorem dX12_readWind_47 : decode cX12_readWind 47 = .ok (.ldc 161, 2) := by decide +kernel
theorem dX12_readWind_49 : decode cX12_readWind 49 = .ok (.invokevirtual 136, 3) := by decide +kernel
theorem dX12_readWind_52 : decode cX12_readWind 52 = .ok (.ifCond .eq 7, 3) := by decide +kernel
theorem dX12_readWind_55 : decode cX12_readWind 55 = .ok (.iconst 3, 1) := by decide +kernel
theorem dX12_readWind_56 : decode cX12_readWind 56 = .ok (.goto 4, 3) := by decide +kernel
theorem dX12_readWind_59 : decode cX12_readWind 59 = .ok (.iconst (-1), 1) := by decide +kernel
theorem dX12_readWind_60 : decode cX12_readWind 60 = .ok (.invokevirtual 182, 3) := by decide +kernel
theorem dX12_readWind_63 : decode cX12_readWind 63 = .ok (.iastore, 1) := by decide +kernel
theorem dX12_readWind_64 : decode cX12_readWind 64 = .ok (.aload_n 0, 1) := by decide +kernel
theorem dX12_readWind_65 : decode cX12_readWind 65 = .ok (.getfield 34, 3) := by decide +kernel
theorem dX12_readWind_68 : decode cX12_readWind 68 = .ok (.bipush 8, 2) := by decide +kernel
theorem dX12_readWind_70 : decode cX12_readWind 70 = .ok (.aload_n 0, 1) := by decide +kernel
theorem dX12_readWind_71 : decode cX12_readWind 71 = .ok (.iconst 0, 1) := by decide +kernel
theorem dX12_readWind_72 : decode cX12_readWind 72 = .ok (.bipush 50, 2) := by decide +kernel
theorem dX12_readWind_74 : decode cX12_readWind 74 = .ok (.invokevirtual 154, 3) := by decide +kernel
theorem dX12_readWind_77 : decode cX12_readWind 77 = .ok (.iastore, 1) := by decide +kernel
theorem dX12_readWind_78 : decode cX12_readWind 78 = .ok (.aload_n 0, 1) := by decide +kernel
theorem dX12_readWind_79 : decode cX12_readWind 79 = .ok (.iconst 1, 1) := by decide +kernel
theorem dX12_readWind_80 : decode cX12_readWind 80 = .ok (.putfield 251, 3) := by decide +kernel
theorem dX12_readWind_83 : decode cX12_readWind 83 = .ok (.return_, 1) := by decide +kernel
set_option maxRecDepth 20000 in
theorem ggX12_readLine_X12_is : GoodIn wsX12_readLine wsX12_is := goodIn_r _ [8, 3, 9, 10, 11, 12, 13, 14, 7, 15, 16, 17, 18, 19, 20, 21, 22, 23, 24, 25, 26, 27, 28, 29, 30, 31, 32, 33, 34, 35, 36, 37, 38, 39, 40, 41, 42, 43, 44, 45, 46, 47, 48, 49, 50, 51, 52, 53, 54, 55, 56, 57, 58, 59, 60, 61, 62, 63, 64, 65, 182, 183, 184, 185, 186, 187, 188, 189, 190, 191, 192, 193, 194, 195, 196, 197, 198, 199, 200, 201, 202, 203, 204, 205, 206, 207, 208, 209, 210, 211, 212, 213, 214, 215] (by decide +kernel) (by decide +kernel)
set_option maxRecDepth 20000 in
theorem gX12_readLine_X12_is : GoodIn wsX12_readLine (wsV RX12 136 RX12 yX12_is wsX12_is) := goodIn_app (goodIn_of _ (by decide +kernel)) ggX12_readLine_X12_is
set_option maxRecDepth 20000 in
theorem ggX12_readLine_X12_errs : GoodIn wsX12_readLine wsX12_errs := goodIn_r _ [69, 16, 10, 70, 12, 13, 14, 7, 15, 182, 183, 184, 185, 186, 187, 188, 189, 190, 191, 192, 193, 194, 195, 196, 197, 198, 199, 200, 201, 202, 203, 204, 205, 206, 207, 208, 209, 210, 211, 212, 213, 214, 215] (by decide +kernel) (by decide +kernel)
set_option maxRecDepth 20000 in
theorem gX12_readLine_X12_errs : GoodIn wsX12_readLine (wsV RX12 146 RX12 yX12_errs wsX12_errs) := goodIn_app (goodIn_of _ (by decide +kernel)) ggX12_readLine_X12_errs
set_option maxRecDepth 20000 in
theorem ggX12_readLine_X12_good : GoodIn wsX12_readLine wsX12_good := goodIn_r _ [15, 16, 182, 183, 184, 185, 186, 187, 188, 189, 190, 191, 192, 193, 194, 195, 196, 197, 198, 199, 200, 201, 202, 203, 204, 205, 206, 207, 208, 209, 210, 211, 212, 213, 214, 215] (by decide +kernel) (by decide +kernel)
set_option maxRecDepth 20000 in
theorem gX12_readLine_X12_good : GoodIn wsX12_readLine (wsV RX12 122 RX12 yX12_good wsX12_good) := goodIn_app (goodIn_of _ (by decide +kernel)) ggX12_readLine_X12_good
set_option maxRecDepth 20000 in
theorem ggX12_readLine_X12_takes : GoodIn wsX12_readLine wsX12_takes := goodIn_r _ [74, 4, 5, 6, 7, 8, 3, 9, 10, 11, 12, 13, 14, 15, 16, 17, 18, 19, 20, 21, 22, 23, 24, 25, 26, 27, 28, 29, 30, 31, 32, 33, 34, 35, 36, 37, 38, 39, 40, 41, 42, 43, 44, 45, 46, 47, 48, 49, 50, 51, 52, 53, 54, 55, 56, 57, 58, 59, 60, 61, 62, 63, 64, 65, 75, 76, 77, 78, 79, 80, 81, 82, 83, 84, 85, 86, 87, 88, 89, 90, 91, 92, 93, 94, 95, 96, 182, 183, 184, 185, 186, 187, 188, 189, 190, 191, 192, 193, 194, 195, 196, 197, 198, 199, 200, 201, 202, 203, 204, 205, 206, 207, 208, 209, 210, 211, 212, 213, 214, 215] (by decide +kernel) (by decide +kernel)
set_option maxRecDepth 20000 in
theorem gX12_readLine_X12_takes : GoodIn wsX12_readLine (wsV RX12 143 RX12 yX12_takes wsX12_takes) := goodIn_app (goodIn_of _ (by decide +kernel)) ggX12_readLine_X12_takes
set_option maxRecDepth 20000 in
theorem ggX12_readLine_X12_readPot : GoodIn wsX12_readLine wsX12_readPot := goodIn_r _ [100, 2, 101, 102, 103, 7, 104, 105, 106, 107, 108, 71, 72, 73, 74, 4, 5, 6, 8, 3, 9, 10, 11, 12, 13, 14, 15, 16, 17, 18, 19, 20, 21, 22, 23, 24, 25, 26, 27, 28, 29, 30, 31, 32, 33, 34, 35, 36, 37, 38, 39, 40, 41, 42, 43, 44, 45, 46, 47, 48, 49, 50, 51, 52, 53, 54, 55, 56, 57, 58, 59, 60, 61, 62, 63, 64, 65, 75, 76, 77, 78, 79, 80, 81, 82, 83, 84, 85, 86, 87, 88, 89, 90, 91, 92, 93, 94, 95, 96, 66, 67, 68, 69, 70, 109, 110, 111, 112, 182, 183, 184, 185, 186, 187, 188, 189, 190, 191, 192, 193, 194, 195, 196, 197, 198, 199, 200, 201, 202, 203, 204, 205, 206, 207, 208, 209, 210, 211, 212, 213, 214, 215] (by decide +kernel) (by decide +kernel)
set_option maxRecDepth 20000 in
theorem gX12_readLine_X12_readPot : GoodIn wsX12_readLine (wsV RX12 269 RX12 yX12_readPot wsX12_readPot) := goodIn_app (goodIn_of _ (by decide +kernel)) ggX12_readLine_X12_readPot
set_option maxRecDepth 20000 in
theorem ggX12_readLine_X12_readPipe : GoodIn wsX12_readLine wsX12_readPipe := goodIn_r _ [116, 2, 109, 110, 111, 7, 112, 3, 83, 12, 13, 14, 15, 16, 66, 67, 68, 69, 10, 70, 94, 95, 96, 75, 76, 77, 78, 9, 79, 80, 81, 82, 84, 85, 86, 87, 88, 89, 90, 91, 92, 93, 11, 101, 102, 103, 104, 105, 106, 107, 108, 71, 72, 73, 74, 4, 5, 6, 8, 17, 18, 19, 20, 21, 22, 23, 24, 25, 26, 27, 28, 29, 30, 31, 32, 33, 34, 35, 36, 37, 38, 39, 40, 41, 42, 43, 44, 45, 46, 47, 48, 49, 50, 51, 52, 53, 54, 55, 56, 57, 58, 59, 60, 61, 62, 63, 64, 65, 117, 118, 119, 120, 121, 122, 123, 124, 125, 126, 127, 128, 129, 130, 131, 132, 182, 183, 184, 185, 186, 187, 188, 189, 190, 191, 192, 193, 194, 195, 196, 197, 198, 199, 200, 201, 202, 203, 204, 205, 206, 207, 208, 209, 210, 211, 212, 213, 214, 215] (by decide +kernel) (by decide +kernel)
set_option maxRecDepth 20000 in
theorem gX12_readLine_X12_readPipe : GoodIn wsX12_readLine (wsV RX12 272 RX12 yX12_readPipe wsX12_readPipe) := goodIn_app (goodIn_of _ (by decide +kernel)) ggX12_readLine_X12_readPipe
set_option maxRecDepth 20000 in
theorem ggX12_readLine_X12_readRun : GoodIn wsX12_readLine wsX12_readRun := goodIn_r _ [136, 137, 138, 139, 7, 140, 3, 83, 141, 2, 12, 13, 14, 15, 16, 94, 95, 96, 66, 67, 68, 69, 10, 70, 109, 110, 111, 112, 75, 76, 77, 78, 9, 79, 80, 81, 82, 84, 85, 86, 87, 88, 89, 90, 91, 92, 93, 11, 101, 102, 103, 104, 105, 106, 107, 108, 71, 72, 73, 74, 4, 5, 6, 8, 17, 18, 19, 20, 21, 22, 23, 24, 25, 26, 27, 28, 29, 30, 31, 32, 33, 34, 35, 36, 37, 38, 39, 40, 41, 42, 43, 44, 45, 46, 47, 48, 49, 50, 51, 52, 53, 54, 55, 56, 57, 58, 59, 60, 61, 62, 63, 64, 65, 142, 143, 144, 145, 182, 183, 184, 185, 186, 187, 188, 189, 190, 191, 192, 193, 194, 195, 196, 197, 198, 199, 200, 201, 202, 203, 204, 205, 206, 207, 208, 209, 210, 211, 212, 213, 214, 215] (by decide +kernel) (by decide +kernel)
set_option maxRecDepth 20000 in
theorem gX12_readLine_X12_readRun : GoodIn wsX12_readLine (wsV RX12 275 RX12 yX12_readRun wsX12_readRun) := goodIn_app (goodIn_of _ (by decide +kernel)) ggX12_readLine_X12_readRun
set_option maxRecDepth 20000 in
theorem ggX12_readLine_X12_readSwing : GoodIn wsX12_readLine wsX12_readSwing := goodIn_r _ [149, 109, 110, 111, 7, 112, 3, 83, 12, 13, 14, 15, 16, 66, 67, 68, 69, 10, 70, 94, 95, 96, 75, 76, 77, 78, 9, 79, 80, 81, 82, 84, 85, 86, 87, 88, 89, 90, 91, 92, 93, 11, 101, 102, 103, 104, 105, 106, 107, 108, 71, 72, 73, 74, 4, 5, 6, 8, 17, 18, 19, 20, 21, 22, 23, 24, 25, 26, 27, 28, 29, 30, 31, 32, 33, 34, 35, 36, 37, 38, 39, 40, 41, 42, 43, 44, 45, 46, 47, 48, 49, 50, 51, 52, 53, 54, 55, 56, 57, 58, 59, 60, 61, 62, 63, 64, 65, 137, 138, 139, 140, 141, 2, 142, 143, 144, 145, 182, 183, 184, 185, 186, 187, 188, 189, 190, 191, 192, 193, 194, 195, 196, 197, 198, 199, 200, 201, 202, 203, 204, 205, 206, 207, 208, 209, 210, 211, 212, 213, 214, 215] (by decide +kernel) (by decide +kernel)
set_option maxRecDepth 20000 in
theorem gX12_readLine_X12_readSwing : GoodIn wsX12_readLine (wsV RX12 278 RX12 yX12_readSwing wsX12_readSwing) := goodIn_app (goodIn_of _ (by decide +kernel)) ggX12_readLine_X12_readSwing
set_option maxRecDepth 20000 in
theorem ggX12_readLine_X12_readWind : GoodIn wsX12_readLine wsX12_readWind := goodIn_r _ [153, 2, 1, 4, 5, 6, 7, 8, 3, 9, 10, 11, 12, 13, 14, 15, 16, 17, 18, 19, 20, 21, 22, 23, 24, 25, 26, 27, 28, 29, 30, 31, 32, 33, 34, 35, 36, 37, 38, 39, 40, 41, 42, 43, 44, 45, 46, 47, 48, 49, 50, 51, 52, 53, 54, 55, 56, 57, 58, 59, 60, 61, 62, 63, 64, 65, 125, 126, 127, 128, 66, 67, 68, 69, 70, 75, 76, 77, 78, 79, 80, 81, 82, 83, 84, 85, 86, 87, 88, 89, 90, 91, 92, 93, 94, 95, 96, 109, 110, 111, 112, 182, 183, 184, 185, 186, 187, 188, 189, 190, 191, 192, 193, 194, 195, 196, 197, 198, 199, 200, 201, 202, 203, 204, 205, 206, 207, 208, 209, 210, 211, 212, 213, 214, 215] (by decide +kernel) (by decide +kernel)
set_option maxRecDepth 20000 in
theorem gX12_readLine_X12_readWind : GoodIn wsX12_readLine (wsV RX12 281 RX12 yX12_readWind wsX12_readWind) := goodIn_app (goodIn_of _ (by decide +kernel)) ggX12_readLine_X12_readWind
set_option maxRecDepth 20000 in
theorem ggX12_readLine_X12_readRoom : GoodIn wsX12_readLine wsX12_readRoom := goodIn_r _ [157, 2, 101, 102, 103, 7, 104, 105, 106, 107, 108, 71, 72, 73, 74, 4, 5, 6, 8, 3, 9, 10, 11, 12, 13, 14, 15, 16, 17, 18, 19, 20, 21, 22, 23, 24, 25, 26, 27, 28, 29, 30, 31, 32, 33, 34, 35, 36, 37, 38, 39, 40, 41, 42, 43, 44, 45, 46, 47, 48, 49, 50, 51, 52, 53, 54, 55, 56, 57, 58, 59, 60, 61, 62, 63, 64, 65, 75, 76, 77, 78, 79, 80, 81, 82, 83, 84, 85, 86, 87, 88, 89, 90, 91, 92, 93, 94, 95, 96, 66, 67, 68, 69, 70, 109, 110, 111, 112, 182, 183, 184, 185, 186, 187, 188, 189, 190, 191, 192, 193, 194, 195, 196, 197, 198, 199, 200, 201, 202, 203, 204, 205, 206, 207, 208, 209, 210, 211, 212, 213, 214, 215] (by decide +kernel) (by decide +kernel)
set_option maxRecDepth 20000 in
theorem gX12_readLine_X12_readRoom : GoodIn wsX12_readLine (wsV RX12 284 RX12 yX12_readRoom wsX12_readRoom) := goodIn_app (goodIn_of _ (by decide +kernel)) ggX12_readLine_X12_readRoom
set_option maxRecDepth 20000 in
theorem ggX12_readLine_X12_readPerson : GoodIn wsX12_readLine wsX12_readPerson := goodIn_r _ [161, 2, 105, 106, 107, 7, 108, 71, 72, 73, 74, 4, 5, 6, 8, 3, 9, 10, 11, 12, 13, 14, 15, 16, 17, 18, 19, 20, 21, 22, 23, 24, 25, 26, 27, 28, 29, 30, 31, 32, 33, 34, 35, 36, 37, 38, 39, 40, 41, 42, 43, 44, 45, 46, 47, 48, 49, 50, 51, 52, 53, 54, 55, 56, 57, 58, 59, 60, 61, 62, 63, 64, 65, 75, 76, 77, 78, 79, 80, 81, 82, 83, 84, 85, 86, 87, 88, 89, 90, 91, 92, 93, 94, 95, 96, 66, 67, 68, 69, 70, 162, 163, 164, 165, 166, 167, 168, 169, 125, 126, 127, 128, 109, 110, 111, 112, 101, 102, 103, 104, 182, 183, 184, 185, 186, 187, 188, 189, 190, 191, 192, 193, 194, 195, 196, 197, 198, 199, 200, 201, 202, 203, 204, 205, 206, 207, 208, 209, 210, 211, 212, 213, 214, 215] (by decide +kernel) (by decide +kernel)
set_option maxRecDepth 20000 in
theorem gX12_readLine_X12_readPerson : GoodIn wsX12_readLine (wsV RX12 287 RX12 yX12_readPerson wsX12_readPerson) := goodIn_app (goodIn_of _ (by decide +kernel)) ggX12_readLine_X12_readPerson
set_option maxRecDepth 20000 in
theorem ggX12_readLine_X12_readRule : GoodIn wsX12_readLine wsX12_readRule := goodIn_r _ [173, 2, 174, 175, 176, 7, 177, 4, 5, 6, 8, 3, 9, 10, 11, 12, 13, 14, 15, 16, 17, 18, 19, 20, 21, 22, 23, 24, 25, 26, 27, 28, 29, 30, 31, 32, 33, 34, 35, 36, 37, 38, 39, 40, 41, 42, 43, 44, 45, 46, 47, 48, 49, 50, 51, 52, 53, 54, 55, 56, 57, 58, 59, 60, 61, 62, 63, 64, 65, 125, 126, 127, 128, 66, 67, 68, 69, 70, 75, 76, 77, 78, 79, 80, 81, 82, 83, 84, 85, 86, 87, 88, 89, 90, 91, 92, 93, 94, 95, 96, 105, 106, 107, 108, 71, 72, 73, 74, 162, 163, 164, 165, 166, 167, 168, 169, 182, 183, 184, 185, 186, 187, 188, 189, 190, 191, 192, 193, 194, 195, 196, 197, 198, 199, 200, 201, 202, 203, 204, 205, 206, 207, 208, 209, 210, 211, 212, 213, 214, 215] (by decide +kernel) (by decide +kernel)
set_option maxRecDepth 20000 in
theorem gX12_readLine_X12_readRule : GoodIn wsX12_readLine (wsV RX12 290 RX12 yX12_readRule wsX12_readRule) := goodIn_app (goodIn_of _ (by decide +kernel)) ggX12_readLine_X12_readRule
set_option maxRecDepth 20000 in
theorem ggX12_readLine_X12_readChange : GoodIn wsX12_readLine wsX12_readChange := goodIn_r _ [181, 2, 174, 175, 176, 7, 177, 4, 5, 6, 8, 3, 9, 10, 11, 12, 13, 14, 15, 16, 17, 18, 19, 20, 21, 22, 23, 24, 25, 26, 27, 28, 29, 30, 31, 32, 33, 34, 35, 36, 37, 38, 39, 40, 41, 42, 43, 44, 45, 46, 47, 48, 49, 50, 51, 52, 53, 54, 55, 56, 57, 58, 59, 60, 61, 62, 63, 64, 65, 125, 126, 127, 128, 66, 67, 68, 69, 70, 75, 76, 77, 78, 79, 80, 81, 82, 83, 84, 85, 86, 87, 88, 89, 90, 91, 92, 93, 94, 95, 96, 101, 102, 103, 104, 105, 106, 107, 108, 71, 72, 73, 74, 109, 110, 111, 112, 162, 163, 164, 165, 166, 167, 168, 169, 182, 183, 184, 185, 186, 187, 188, 189, 190, 191, 192, 193, 194, 195, 196, 197, 198, 199, 200, 201, 202, 203, 204, 205, 206, 207, 208, 209, 210, 211, 212, 213, 214, 215] (by decide +kernel) (by decide +kernel)
set_option maxRecDepth 20000 in
theorem gX12_readLine_X12_readChange : GoodIn wsX12_readLine (wsV RX12 293 RX12 yX12_readChange wsX12_readChange) := goodIn_app (goodIn_of _ (by decide +kernel)) ggX12_readLine_X12_readChange
set_option maxRecDepth 20000 in
theorem ggX12_readLine_X12_advance : GoodIn wsX12_readLine wsX12_advance := goodIn_r _ [78, 9, 10, 3, 79, 80, 81, 82, 83, 84, 85, 86, 87, 88, 89, 90, 91, 7, 92, 93, 11, 94, 95, 96, 182, 183, 184, 185, 186, 187, 188, 189, 190, 191, 192, 193, 194, 195, 196, 197, 198, 199, 200, 201, 202, 203, 204, 205, 206, 207, 208, 209, 210, 211, 212, 213, 214, 215] (by decide +kernel) (by decide +kernel)
set_option maxRecDepth 20000 in
theorem gX12_readLine_X12_advance : GoodIn wsX12_readLine (wsV RX12 140 RX12 yX12_advance wsX12_advance) := goodIn_app (goodIn_of _ (by decide +kernel)) ggX12_readLine_X12_advance
theorem dX12_readLine_0 : decode cX12_readLine 0 = .ok (.aload_n 0, 1) := by decide +kernel
theorem dX12_readLine_1 : decode cX12_readLine 1 = .ok (.ldc 171, 2) := by decide +kernel
theorem dX12_readLine_3 : decode cX12_readLine 3 = .ok (.invokevirtual 136, 3) := by decide +kernel
theorem dX12_readLine_6 : decode cX12_readLine 6 = .ok (.ifCond .ne 81, 3) := by decide +kernel
theorem dX12_readLine_9 : decode cX12_readLine 9 = .ok (.aload_n 0, 1) := by decide +kernel
theorem dX12_readLine_10 : decode cX12_readLine 10 = .ok (.ldc 173, 2) := by decide +kernel
theorem dX12_readLine_12 : decode cX12_readLine 12 = .ok (.invokevirtual 136, 3) := by decide +kernel
theorem dX12_readLine_15 : decode cX12_readLine 15 = .ok (.ifCond .ne 72, 3) := by decide +kernel
theorem dX12_readLine_18 : decode cX12_readLine 18 = .ok (.aload_n 0, 1) := by decide +kernel
theorem dX12_readLine_19 : decode cX12_readLine 19 = .ok (.ldc 255, 2) := by decide +kernel
theorem dX12_readLine_21 : decode cX12_readLine 21 = .ok (.invokevirtual 136, 3) := by decide +kernel
theorem dX12_readLine_24 : decode cX12_readLine 24 = .ok (.ifCond .ne 63, 3) := by decide +kernel
theorem dX12_readLine_27 : decode cX12_readLine 27 = .ok (.aload_n 0, 1) := by decide +kernel
theorem dX12_readLine_28 : decode cX12_readLine 28 = .ok (.ldc_w 257, 3) := by decide +kernel
theorem dX12_readLine_31 : decode cX12_readLine 31 = .ok (.invokevirtual 136, 3) := by decide +kernel
theorem dX12_readLine_34 : decode cX12_readLine 34 = .ok (.ifCond .ne 53, 3) := by decide +kernel
theorem dX12_readLine_37 : decode cX12_readLine 37 = .ok (.aload_n 0, 1) := by decide +kernel
theorem dX12_readLine_38 : decode cX12_readLine 38 = .ok (.ldc_w 259, 3) := by decide +kernel
theorem dX12_readLine_41 : decode cX12_readLine 41 = .ok (.invokevirtual 136, 3) := by decide +kernel
theorem dX12_readLine_44 : decode cX12_readLine 44 = .ok (.ifCond .ne 43, 3) := by decide +kernel
theorem dX12_readLine_47 : decode cX12_readLine 47 = .ok (.aload_n 0, 1) := by decide +kernel
theorem dX12_readLine_48 : decode cX12_readLine 48 = .ok (.ldc_w 261, 3) := by decide +kernel
theorem dX12_readLine_51 : decode cX12_readLine 51 = .ok (.invokevirtual 136, 3) := by decide +kernel
theorem dX12_readLine_54 : decode cX12_readLine 54 = .ok (.ifCond .ne 33, 3) := by decide +kernel
theorem dX12_readLine_57 : decode cX12_readLine 57 = .ok (.aload_n 0, 1) := by decide +kernel
theorem dX12_readLine_58 : decode cX12_readLine 58 = .ok (.ldc_w 263, 3) := by decide +kernel
theorem dX12_readLine_61 : decode cX12_readLine 61 = .ok (.invokevirtual 136, 3) := by decide +kernel
theorem dX12_readLine_64 : decode cX12_readLine 64 = .ok (.ifCond .ne 23, 3) := by decide +kernel
theorem dX12_readLine_67 : decode cX12_readLine 67 = .ok (.aload_n 0, 1) := by decide +kernel
theorem dX12_readLine_68 : decode cX12_readLine 68 = .ok (.ldc_w 265, 3) := by decide +kernel
theorem dX12_readLine_71 : decode cX12_readLine 71 = .ok (.invokevirtual 136, 3) := by decide +kernel
theorem dX12_readLine_74 : decode cX12_readLine 74 = .ok (.ifCond .ne 13, 3) := by decide +kernel
theorem dX12_readLine_77 : decode cX12_readLine 77 = .ok (.aload_n 0, 1) := by decide +kernel
theorem dX12_readLine_78 : decode cX12_readLine 78 = .ok (.ldc_w 267, 3) := by decide +kernel
theorem dX12_readLine_81 : decode cX12_readLine 81 = .ok (.invokevirtual 136, 3) := by decide +kernel
theorem dX12_readLine_84 : decode cX12_readLine 84 = .ok (.ifCond .eq 7, 3) := by decide +kernel
theorem dX12_readLine_87 : decode cX12_readLine 87 = .ok (.iconst 1, 1) := by decide +kernel
theorem dX12_readLine_88 : decode cX12_readLine 88 = .ok (.goto 4, 3) := by decide +kernel
theorem dX12_readLine_91 : decode cX12_readLine 91 = .ok (.iconst 0, 1) := by decide +kernel
theorem dX12_readLine_92 : decode cX12_readLine 92 = .ok (.istore_n 1, 1) := by decide +kernel
theorem dX12_readLine_93 : decode cX12_readLine 93 = .ok (.iload_n 1, 1) := by decide +kernel
theorem dX12_readLine_94 : decode cX12_readLine 94 = .ok (.ifCond .ne 8, 3) := by decide +kernel
theorem dX12_readLine_97 : decode cX12_readLine 97 = .ok (.aload_n 0, 1) := by decide +kernel
theorem dX12_readLine_98 : decode cX12_readLine 98 = .ok (.iconst 1, 1) := by decide +kernel
theorem dX12_readLine_99 : decode cX12_readLine 99 = .ok (.invokevirtual 146, 3) := by decide +kernel
theorem dX12_readLine_102 : decode cX12_readLine 102 = .ok (.aload_n 0, 1) := by decide +kernel
theorem dX12_readLine_103 : decode cX12_readLine 103 = .ok (.ldc_w 259, 3) := by decide +kernel
theorem dX12_readLine_106 : decode cX12_readLine 106 = .ok (.invokevirtual 136, 3) := by decide +kernel
theorem dX12_readLine_109 : decode cX12_readLine 109 = .ok (.ifCond .eq 15, 3) := by decide +kernel
theorem dX12_readLine_112 : decode cX12_readLine 112 = .ok (.aload_n 0, 1) := by decide +kernel
theorem dX12_readLine_113 : decode cX12_readLine 113 = .ok (.getfield 251, 3) := by decide +kernel
theorem dX12_readLine_116 : decode cX12_readLine 116 = .ok (.ifCond .eq 8, 3) := by decide +kernel
theorem dX12_readLine_119 : decode cX12_readLine 119 = .ok (.aload_n 0, 1) := by decide +kernel
theorem dX12_readLine_120 : decode cX12_readLine 120 = .ok (.iconst 2, 1) := by decide +kernel
theorem dX12_readLine_121 : decode cX12_readLine 121 = .ok (.invokevirtual 146, 3) := by decide +kernel
theorem dX12_readLine_124 : decode cX12_readLine 124 = .ok (.aload_n 0, 1) := by decide +kernel
theorem dX12_readLine_125 : decode cX12_readLine 125 = .ok (.ldc 171, 2) := by decide +kernel
theorem dX12_readLine_127 : decode cX12_readLine 127 = .ok (.invokevirtual 136, 3) := by decide +kernel
theorem dX12_readLine_130 : decode cX12_readLine 130 = .ok (.ifCond .eq 14, 3) := by decide +kernel
theorem dX12_readLine_133 : decode cX12_readLine 133 = .ok (.aload_n 0, 1) := by decide +kernel
theorem dX12_readLine_134 : decode cX12_readLine 134 = .ok (.getfield 34, 3) := by decide +kernel
theorem dX12_readLine_137 : decode cX12_readLine 137 = .ok (.iconst 1, 1) := by decide +kernel
theorem dX12_readLine_138 : decode cX12_readLine 138 = .ok (.iaload, 1) := by decide +kernel
theorem dX12_readLine_139 : decode cX12_readLine 139 = .ok (.bipush 8, 2) := by decide +kernel
theorem dX12_readLine_141 : decode cX12_readLine 141 = .ok (.if_icmp .eq 86, 3) := by decide +kernel
theorem dX12_readLine_144 : decode cX12_readLine 144 = .ok (.aload_n 0, 1) := by decide +kernel
theorem dX12_readLine_145 : decode cX12_readLine 145 = .ok (.ldc 173, 2) := by decide +kernel
theorem dX12_readLine_147 : decode cX12_readLine 147 = .ok (.invokevirtual 136, 3) := by decide +kernel
theorem dX12_readLine_150 : decode cX12_readLine 150 = .ok (.ifCond .eq 14, 3) := by decide +kernel
theorem dX12_readLine_153 : decode cX12_readLine 153 = .ok (.aload_n 0, 1) := by decide +kernel
theorem dX12_readLine_154 : decode cX12_readLine 154 = .ok (.getfield 34, 3) := by decide +kernel
theorem dX12_readLine_157 : decode cX12_readLine 157 = .ok (.iconst 2, 1) := by decide +kernel
theorem dX12_readLine_158 : decode cX12_readLine 158 = .ok (.iaload, 1) := by decide +kernel
theorem dX12_readLine_159 : decode cX12_readLine 159 = .ok (.bipush 12, 2) := by decide +kernel
theorem dX12_readLine_161 : decode cX12_readLine 161 = .ok (.if_icmp .eq 66, 3) := by decide +kernel
theorem dX12_readLine_164 : decode cX12_readLine 164 = .ok (.aload_n 0, 1) := by decide +kernel
theorem dX12_readLine_165 : decode cX12_readLine 165 = .ok (.ldc_w 261, 3) := by decide +kernel
theorem dX12_readLine_168 : decode cX12_readLine 168 = .ok (.invokevirtual 136, 3) := by decide +kernel
theorem dX12_readLine_171 : decode cX12_readLine 171 = .ok (.ifCond .eq 14, 3) := by decide +kernel
theorem dX12_readLine_174 : decode cX12_readLine 174 = .ok (.aload_n 0, 1) := by decide +kernel
theorem dX12_readLine_175 : decode cX12_readLine 175 = .ok (.getfield 34, 3) := by decide +kernel
theorem dX12_readLine_178 : decode cX12_readLine 178 = .ok (.iconst 3, 1) := by decide +kernel
theorem dX12_readLine_179 : decode cX12_readLine 179 = .ok (.iaload, 1) := by decide +kernel
theorem dX12_readLine_180 : decode cX12_readLine 180 = .ok (.bipush 12, 2) := by decide +kernel
theorem dX12_readLine_182 : decode cX12_readLine 182 = .ok (.if_icmp .eq 45, 3) := by decide +kernel
theorem dX12_readLine_185 : decode cX12_readLine 185 = .ok (.aload_n 0, 1) := by decide +kernel
theorem dX12_readLine_186 : decode cX12_readLine 186 = .ok (.ldc_w 263, 3) := by decide +kernel
theorem dX12_readLine_189 : decode cX12_readLine 189 = .ok (.invokevirtual 136, 3) := by decide +kernel
theorem dX12_readLine_192 : decode cX12_readLine 192 = .ok (.ifCond .eq 14, 3) := by decide +kernel
theorem dX12_readLine_195 : decode cX12_readLine 195 = .ok (.aload_n 0, 1) := by decide +kernel
theorem dX12_readLine_196 : decode cX12_readLine 196 = .ok (.getfield 34, 3) := by decide +kernel
theorem dX12_readLine_199 : decode cX12_readLine 199 = .ok (.iconst 4, 1) := by decide +kernel
theorem dX12_readLine_200 : decode cX12_readLine 200 = .ok (.iaload, 1) := by decide +kernel
theorem dX12_readLine_201 : decode cX12_readLine 201 = .ok (.bipush 12, 2) := by decide +kernel
theorem dX12_readLine_203 : decode cX12_readLine 203 = .ok (.if_icmp .eq 24, 3) := by decide +kernel
theorem dX12_readLine_206 : decode cX12_readLine 206 = .ok (.aload_n 0, 1) := by decide +kernel
theorem dX12_readLine_207 : decode cX12_readLine 207 = .ok (.ldc_w 267, 3) := by decide +kernel
theorem dX12_readLine_210 : decode cX12_readLine 210 = .ok (.invokevirtual 136, 3) := by decide +kernel
theorem dX12_readLine_213 : decode cX12_readLine 213 = .ok (.ifCond .eq 18, 3) := by decide +kernel
theorem dX12_readLine_216 : decode cX12_readLine 216 = .ok (.aload_n 0, 1) := by decide +kernel
theorem dX12_readLine_217 : decode cX12_readLine 217 = .ok (.getfield 34, 3) := by decide +kernel
theorem dX12_readLine_220 : decode cX12_readLine 220 = .ok (.iconst 5, 1) := by decide +kernel
theorem dX12_readLine_221 : decode cX12_readLine 221 = .ok (.iaload, 1) := by decide +kernel
theorem dX12_readLine_222 : decode cX12_readLine 222 = .ok (.bipush 20, 2) := by decide +kernel
theorem dX12_readLine_224 : decode cX12_readLine 224 = .ok (.if_icmp .ne 7, 3) := by decide +kernel
theorem dX12_readLine_227 : decode cX12_readLine 227 = .ok (.iconst 1, 1) := by decide +kernel
theorem dX12_readLine_228 : decode cX12_readLine 228 = .ok (.goto 4, 3) := by decide +kernel
theorem dX12_readLine_231 : decode cX12_readLine 231 = .ok (.iconst 0, 1) := by decide +kernel
theorem dX12_readLine_232 : decode cX12_readLine 232 = .ok (.istore_n 2, 1) := by decide +kernel
theorem dX12_readLine_233 : decode cX12_readLine 233 = .ok (.iload_n 2, 1) := by decide +kernel
theorem dX12_readLine_234 : decode cX12_readLine 234 = .ok (.ifCond .ne 14, 3) := by decide +kernel
theorem dX12_readLine_237 : decode cX12_readLine 237 = .ok (.aload_n 0, 1) := by decide +kernel
theorem dX12_readLine_238 : decode cX12_readLine 238 = .ok (.getfield 34, 3) := by decide +kernel
theorem dX12_readLine_241 : decode cX12_readLine 241 = .ok (.iconst 0, 1) := by decide +kernel
theorem dX12_readLine_242 : decode cX12_readLine 242 = .ok (.iaload, 1) := by decide +kernel
theorem dX12_readLine_243 : decode cX12_readLine 243 = .ok (.bipush 60, 2) := by decide +kernel
theorem dX12_readLine_245 : decode cX12_readLine 245 = .ok (.if_icmp .ne 8, 3) := by decide +kernel
theorem dX12_readLine_248 : decode cX12_readLine 248 = .ok (.aload_n 0, 1) := by decide +kernel
theorem dX12_readLine_249 : decode cX12_readLine 249 = .ok (.iconst 3, 1) := by decide +kernel
theorem dX12_readLine_250 : decode cX12_readLine 250 = .ok (.invokevirtual 146, 3) := by decide +kernel
theorem dX12_readLine_253 : decode cX12_readLine 253 = .ok (.aload_n 0, 1) := by decide +kernel
theorem dX12_readLine_254 : decode cX12_readLine 254 = .ok (.invokevirtual 122, 3) := by decide +kernel
theorem dX12_readLine_257 : decode cX12_readLine 257 = .ok (.ifCond .ne 4, 3) := by decide +kernel
theorem dX12_readLine_260 : decode cX12_readLine 260 = .ok (.return_, 1) := by decide +kernel
theorem dX12_readLine_261 : decode cX12_readLine 261 = .ok (.aload_n 0, 1) := by decide +kernel
theorem dX12_readLine_262 : decode cX12_readLine 262 = .ok (.ldc 171, 2) := by decide +kernel
theorem dX12_readLine_264 : decode cX12_readLine 264 = .ok (.invokevirtual 143, 3) := by decide +kernel
theorem dX12_readLine_267 : decode cX12_readLine 267 = .ok (.ifCond .eq 10, 3) := by decide +kernel
theorem dX12_readLine_270 : decode cX12_readLine 270 = .ok (.aload_n 0, 1) := by decide +kernel
theorem dX12_readLine_271 : decode cX12_readLine 271 = .ok (.invokevirtual 269, 3) := by decide +kernel
theorem dX12_readLine_274 : decode cX12_readLine 274 = .ok (.goto 134, 3) := by decide +kernel
theorem dX12_readLine_277 : decode cX12_readLine 277 = .ok (.aload_n 0, 1) := by decide +kernel
theorem dX12_readLine_278 : decode cX12_readLine 278 = .ok (.ldc 173, 2) := by decide +kernel
theorem dX12_readLine_280 : decode cX12_readLine 280 = .ok (.invokevirtual 143, 3) := by decide +kernel
theorem dX12_readLine_283 : decode cX12_readLine 283 = .ok (.ifCond .eq 10, 3) := by decide +kernel
theorem dX12_readLine_286 : decode cX12_readLine 286 = .ok (.aload_n 0, 1) := by decide +kernel
theorem dX12_readLine_287 : decode cX12_readLine 287 = .ok (.invokevirtual 272, 3) := by decide +kernel
theorem dX12_readLine_290 : decode cX12_readLine 290 = .ok (.goto 118, 3) := by decide +kernel
theorem dX12_readLine_293 : decode cX12_readLine 293 = .ok (.aload_n 0, 1) := by decide +kernel
theorem dX12_readLine_294 : decode cX12_readLine 294 = .ok (.ldc 255, 2) := by decide +kernel
theorem dX12_readLine_296 : decode cX12_readLine 296 = .ok (.invokevirtual 143, 3) := by decide +kernel
theorem dX12_readLine_299 : decode cX12_readLine 299 = .ok (.ifCond .eq 10, 3) := by decide +kernel
theorem dX12_readLine_302 : decode cX12_readLine 302 = .ok (.aload_n 0, 1) := by decide +kernel
theorem dX12_readLine_303 : decode cX12_readLine 303 = .ok (.invokevirtual 275, 3) := by decide +kernel
theorem dX12_readLine_306 : decode cX12_readLine 306 = .ok (.goto 102, 3) := by decide +kernel
theorem dX12_readLine_309 : decode cX12_readLine 309 = .ok (.aload_n 0, 1) := by decide +kernel
theorem dX12_readLine_310 : decode cX12_readLine 310 = .ok (.ldc_w 257, 3) := by decide +kernel
theorem dX12_readLine_313 : decode cX12_readLine 313 = .ok (.invokevirtual 143, 3) := by decide +kernel
theorem dX12_readLine_316 : decode cX12_readLine 316 = .ok (.ifCond .eq 10, 3) := by decide +kernel
theorem dX12_readLine_319 : decode cX12_readLine 319 = .ok (.aload_n 0, 1) := by decide +kernel
theorem dX12_readLine_320 : decode cX12_readLine 320 = .ok (.invokevirtual 278, 3) := by decide +kernel
theorem dX12_readLine_323 : decode cX12_readLine 323 = .ok (.goto 85, 3) := by decide +kernel
theorem dX12_readLine_326 : decode cX12_readLine 326 = .ok (.aload_n 0, 1) := by decide +kernel
theorem dX12_readLine_327 : decode cX12_readLine 327 = .ok (.ldc_w 259, 3) := by decide +kernel
theorem dX12_readLine_330 : decode cX12_readLine 330 = .ok (.invokevirtual 143, 3) := by decide +kernel
theorem dX12_readLine_333 : decode cX12_readLine 333 = .ok (.ifCond .eq 10, 3) := by decide +kernel
theorem dX12_readLine_336 : decode cX12_readLine 336 = .ok (.aload_n 0, 1) := by decide +kernel
theorem dX12_readLine_337 : decode cX12_readLine 337 = .ok (.invokevirtual 281, 3) := by decide +kernel
theorem dX12_readLine_340 : decode cX12_readLine 340 = .ok (.goto 68, 3) := by decide +kernel
theorem dX12_readLine_343 : decode cX12_readLine 343 = .ok (.aload_n 0, 1) := by decide +kernel
theorem dX12_readLine_344 : decode cX12_readLine 344 = .ok (.ldc_w 261, 3) := by decide +kernel
theorem dX12_readLine_347 : decode cX12_readLine 347 = .ok (.invokevirtual 143, 3) := by decide +kernel
theorem dX12_readLine_350 : decode cX12_readLine 350 = .ok (.ifCond .eq 10, 3) := by decide +kernel
theorem dX12_readLine_353 : decode cX12_readLine 353 = .ok (.aload_n 0, 1) := by decide +kernel
theorem dX12_readLine_354 : decode cX12_readLine 354 = .ok (.invokevirtual 284, 3) := by decide +kernel
theorem dX12_readLine_357 : decode cX12_readLine 357 = .ok (.goto 51, 3) := by decide +kernel
theorem dX12_readLine_360 : decode cX12_readLine 360 = .ok (.aload_n 0, 1) := by decide +kernel
theorem dX12_readLine_361 : decode cX12_readLine 361 = .ok (.ldc_w 263, 3) := by decide +kernel
theorem dX12_readLine_364 : decode cX12_readLine 364 = .ok (.invokevirtual 143, 3) := by decide +kernel
theorem dX12_readLine_367 : decode cX12_readLine 367 = .ok (.ifCond .eq 10, 3) := by decide +kernel
theorem dX12_readLine_370 : decode cX12_readLine 370 = .ok (.aload_n 0, 1) := by decide +kernel
theorem dX12_readLine_371 : decode cX12_readLine 371 = .ok (.invokevirtual 287, 3) := by decide +kernel
theorem dX12_readLine_374 : decode cX12_readLine 374 = .ok (.goto 34, 3) := by decide +kernel
theorem dX12_readLine_377 : decode cX12_readLine 377 = .ok (.aload_n 0, 1) := by decide +kernel
theorem dX12_readLine_378 : decode cX12_readLine 378 = .ok (.ldc_w 265, 3) := by decide +kernel
theorem dX12_readLine_381 : decode cX12_readLine 381 = .ok (.invokevirtual 143, 3) := by decide +kernel
theorem dX12_readLine_384 : decode cX12_readLine 384 = .ok (.ifCond .eq 10, 3) := by decide +kernel
theorem dX12_readLine_387 : decode cX12_readLine 387 = .ok (.aload_n 0, 1) := by decide +kernel
theorem dX12_readLine_388 : decode cX12_readLine 388 = .ok (.invokevirtual 290, 3) := by decide +kernel
theorem dX12_readLine_391 : decode cX12_readLine 391 = .ok (.goto 17, 3) := by decide +kernel
theorem dX12_readLine_394 : decode cX12_readLine 394 = .ok (.aload_n 0, 1) := by decide +kernel
theorem dX12_readLine_395 : decode cX12_readLine 395 = .ok (.ldc_w 267, 3) := by decide +kernel
theorem dX12_readLine_398 : decode cX12_readLine 398 = .ok (.invokevirtual 143, 3) := by decide +kernel
theorem dX12_readLine_401 : decode cX12_readLine 401 = .ok (.ifCond .eq 7, 3) := by decide +kernel
theorem dX12_readLine_404 : decode cX12_readLine 404 = .ok (.aload_n 0, 1) := by decide +kernel
theorem dX12_readLine_405 : decode cX12_readLine 405 = .ok (.invokevirtual 293, 3) := by decide +kernel
theorem dX12_readLine_408 : decode cX12_readLine 408 = .ok (.aload_n 0, 1) := by decide +kernel
theorem dX12_readLine_409 : decode cX12_readLine 409 = .ok (.invokevirtual 122, 3) := by decide +kernel
theorem dX12_readLine_412 : decode cX12_readLine 412 = .ok (.ifCond .eq 16, 3) := by decide +kernel
theorem dX12_readLine_415 : decode cX12_readLine 415 = .ok (.aload_n 0, 1) := by decide +kernel
theorem dX12_readLine_416 : decode cX12_readLine 416 = .ok (.getfield 98, 3) := by decide +kernel
theorem dX12_readLine_419 : decode cX12_readLine 419 = .ok (.iconst 3, 1) := by decide +kernel
theorem dX12_readLine_420 : decode cX12_readLine 420 = .ok (.if_icmp .eq 8, 3) := by decide +kernel
theorem dX12_readLine_423 : decode cX12_readLine 423 = .ok (.aload_n 0, 1) := by decide +kernel
theorem dX12_readLine_424 : decode cX12_readLine 424 = .ok (.iconst 1, 1) := by decide +kernel
theorem dX12_readLine_425 : decode cX12_readLine 425 = .ok (.invokevirtual 146, 3) := by decide +kernel
theorem dX12_readLine_428 : decode cX12_readLine 428 = .ok (.aload_n 0, 1) := by decide +kernel
theorem dX12_readLine_429 : decode cX12_readLine 429 = .ok (.invokevirtual 122, 3) := by decide +kernel
theorem dX12_readLine_432 : decode cX12_readLine 432 = .ok (.ifCond .eq 7, 3) := by decide +kernel
theorem dX12_readLine_435 : decode cX12_readLine 435 = .ok (.aload_n 0, 1) := by decide +kernel
theorem dX12_readLine_436 : decode cX12_readLine 436 = .ok (.invokevirtual 140, 3) := by decide +kernel
theorem dX12_readLine_439 : decode cX12_readLine 439 = .ok (.aload_n 0, 1) := by decide +kernel
theorem dX12_readLine_440 : decode cX12_readLine 440 = .ok (.getfield 34, 3) := by decide +kernel
theorem dX12_readLine_443 : decode cX12_readLine 443 = .ok (.iconst 0, 1) := by decide +kernel
theorem dX12_readLine_444 : decode cX12_readLine 444 = .ok (.dup2, 1) := by decide +kernel
theorem dX12_readLine_445 : decode cX12_readLine 445 = .ok (.iaload, 1) := by decide +kernel
theorem dX12_readLine_446 : decode cX12_readLine 446 = .ok (.iconst 1, 1) := by decide +kernel
theorem dX12_readLine_447 : decode cX12_readLine 447 = .ok (.iadd, 1) := by decide +kernel
theorem dX12_readLine_448 : decode cX12_readLine 448 = .ok (.iastore, 1) := by decide +kernel
theorem dX12_readLine_449 : decode cX12_readLine 449 = .ok (.return_, 1) := by decide +kernel
theorem dX12_works_0 : decode cX12_works 0 = .ok (.aload_n 0, 1) := by decide +kernel
theorem dX12_works_1 : decode cX12_works 1 = .ok (.aload_n 0, 1) := by decide +kernel
theorem dX12_works_2 : decode cX12_works 2 = .ok (.getfield 82, 3) := by decide +kernel
theorem dX12_works_5 : decode cX12_works 5 = .ok (.putfield 85, 3) := by decide +kernel
theorem dX12_works_8 : decode cX12_works 8 = .ok (.aload_n 0, 1) := by decide +kernel
theorem dX12_works_9 : decode cX12_works 9 = .ok (.iconst 0, 1) := by decide +kernel
theorem dX12_works_10 : decode cX12_works 10 = .ok (.putfield 82, 3) := by decide +kernel
theorem dX12_works_13 : decode cX12_works 13 = .ok (.aload_n 0, 1) := by decide +kernel
theorem dX12_works_14 : decode cX12_works 14 = .ok (.iconst 0, 1) := by decide +kernel
theorem dX12_works_15 : decode cX12_works 15 = .ok (.putfield 88, 3) := by decide +kernel
theorem dX12_works_18 : decode cX12_works 18 = .ok (.aload_n 0, 1) := by decide +kernel
theorem dX12_works_19 : decode cX12_works 19 = .ok (.iconst 0, 1) := by decide +kernel
theorem dX12_works_20 : decode cX12_works 20 = .ok (.putfield 119, 3) := by decide +kernel
theorem dX12_works_23 : decode cX12_works 23 = .ok (.aload_n 0, 1) := by decide +kernel
theorem dX12_works_24 : decode cX12_works 24 = .ok (.iconst (-1), 1) := by decide +kernel
theorem dX12_works_25 : decode cX12_works 25 = .ok (.putfield 31, 3) := by decide +kernel
theorem dX12_works_28 : decode cX12_works 28 = .ok (.iconst 0, 1) := by decide +kernel
theorem dX12_works_29 : decode cX12_works 29 = .ok (.istore_n 1, 1) := by decide +kernel
theorem dX12_works_30 : decode cX12_works 30 = .ok (.iload_n 1, 1) := by decide +kernel
theorem dX12_works_31 : decode cX12_works 31 = .ok (.sipush 2482, 3) := by decide +kernel
theorem dX12_works_34 : decode cX12_works 34 = .ok (.if_icmp .ge 16, 3) := by decide +kernel
theorem dX12_works_37 : decode cX12_works 37 = .ok (.aload_n 0, 1) := by decide +kernel
theorem dX12_works_38 : decode cX12_works 38 = .ok (.getfield 34, 3) := by decide +kernel
theorem dX12_works_41 : decode cX12_works 41 = .ok (.iload_n 1, 1) := by decide +kernel
theorem dX12_works_42 : decode cX12_works 42 = .ok (.iconst 0, 1) := by decide +kernel
theorem dX12_works_43 : decode cX12_works 43 = .ok (.iastore, 1) := by decide +kernel
theorem dX12_works_44 : decode cX12_works 44 = .ok (.iinc 1 1, 3) := by decide +kernel
theorem dX12_works_47 : decode cX12_works 47 = .ok (.goto (-17), 3) := by decide +kernel
theorem dX12_works_50 : decode cX12_works 50 = .ok (.aload_n 0, 1) := by decide +kernel
theorem dX12_works_51 : decode cX12_works 51 = .ok (.iconst 0, 1) := by decide +kernel
theorem dX12_works_52 : decode cX12_works 52 = .ok (.putfield 251, 3) := by decide +kernel
theorem dX12_works_55 : decode cX12_works 55 = .ok (.aload_n 0, 1) := by decide +kernel
theorem dX12_works_56 : decode cX12_works 56 = .ok (.invokevirtual 140, 3) := by decide +kernel
theorem dX12_works_59 : decode cX12_works 59 = .ok (.aload_n 0, 1) := by decide +kernel
theorem dX12_works_60 : decode cX12_works 60 = .ok (.invokevirtual 122, 3) := by decide +kernel
theorem dX12_works_63 : decode cX12_works 63 = .ok (.ifCond .eq 17, 3) := by decide +kernel
theorem dX12_works_66 : decode cX12_works 66 = .ok (.aload_n 0, 1) := by decide +kernel
theorem dX12_works_67 : decode cX12_works 67 = .ok (.getfield 98, 3) := by decide +kernel
theorem dX12_works_70 : decode cX12_works 70 = .ok (.ifCond .eq 10, 3) := by decide +kernel
theorem dX12_works_73 : decode cX12_works 73 = .ok (.aload_n 0, 1) := by decide +kernel
theorem dX12_works_74 : decode cX12_works 74 = .ok (.invokevirtual 296, 3) := by decide +kernel
theorem dX12_works_77 : decode cX12_works 77 = .ok (.goto (-18), 3) := by decide +kernel
theorem dX12_works_80 : decode cX12_works 80 = .ok (.aload_n 0, 1) := by decide +kernel
theorem dX12_works_81 : decode cX12_works 81 = .ok (.invokevirtual 122, 3) := by decide +kernel
theorem dX12_works_84 : decode cX12_works 84 = .ok (.ifCond .ne 6, 3) := by decide +kernel
theorem dX12_works_87 : decode cX12_works 87 = .ok (.bipush (-4), 2) := by decide +kernel
theorem dX12_works_89 : decode cX12_works 89 = .ok (.ireturn, 1) := by decide +kernel
theorem dX12_works_90 : decode cX12_works 90 = .ok (.iconst 0, 1) := by decide +kernel
theorem dX12_works_91 : decode cX12_works 91 = .ok (.istore_n 1, 1) := by decide +kernel
theorem dX12_works_92 : decode cX12_works 92 = .ok (.iload_n 1, 1) := by decide +kernel
theorem dX12_works_93 : decode cX12_works 93 = .ok (.sipush 2482, 3) := by decide +kernel
theorem dX12_works_96 : decode cX12_works 96 = .ok (.if_icmp .ge 21, 3) := by decide +kernel
theorem dX12_works_99 : decode cX12_works 99 = .ok (.aload_n 0, 1) := by decide +kernel
theorem dX12_works_100 : decode cX12_works 100 = .ok (.getfield 13, 3) := by decide +kernel
theorem dX12_works_103 : decode cX12_works 103 = .ok (.iload_n 1, 1) := by decide +kernel
theorem dX12_works_104 : decode cX12_works 104 = .ok (.aload_n 0, 1) := by decide +kernel
theorem dX12_works_105 : decode cX12_works 105 = .ok (.getfield 34, 3) := by decide +kernel
theorem dX12_works_108 : decode cX12_works 108 = .ok (.iload_n 1, 1) := by decide +kernel
theorem dX12_works_109 : decode cX12_works 109 = .ok (.iaload, 1) := by decide +kernel
theorem dX12_works_110 : decode cX12_works 110 = .ok (.iastore, 1) := by decide +kernel
theorem dX12_works_111 : decode cX12_works 111 = .ok (.iinc 1 1, 3) := by decide +kernel
theorem dX12_works_114 : decode cX12_works 114 = .ok (.goto (-22), 3) := by decide +kernel
theorem dX12_works_117 : decode cX12_works 117 = .ok (.aload_n 0, 1) := by decide +kernel
theorem dX12_works_118 : decode cX12_works 118 = .ok (.getfield 13, 3) := by decide +kernel
theorem dX12_works_121 : decode cX12_works 121 = .ok (.iconst 0, 1) := by decide +kernel
theorem dX12_works_122 : decode cX12_works 122 = .ok (.iaload, 1) := by decide +kernel
theorem dX12_works_123 : decode cX12_works 123 = .ok (.ireturn, 1) := by decide +kernel
set_option maxRecDepth 20000 in
theorem ggX12_height_X12_isPot : GoodIn wsX12_height wsX12_isPot := goodIn_r _ [7, 1, 8, 9, 6, 10, 11, 12, 13, 14, 15, 16, 17, 18, 19, 20, 21, 22, 23, 24, 25, 26, 27, 28, 29, 30, 31, 32, 33, 34, 35, 36, 37, 38, 39, 40, 41, 42, 43, 44] (by decide +kernel) (by decide +kernel)
set_option maxRecDepth 20000 in
theorem gX12_height_X12_isPot : GoodIn wsX12_height (wsV RX12 299 RX12 yX12_isPot wsX12_isPot) := goodIn_app (goodIn_of _ (by decide +kernel)) ggX12_height_X12_isPot
theorem dX12_height_0 : decode cX12_height 0 = .ok (.aload_n 0, 1) := by decide +kernel
theorem dX12_height_1 : decode cX12_height 1 = .ok (.iload_n 1, 1) := by decide +kernel
theorem dX12_height_2 : decode cX12_height 2 = .ok (.invokevirtual 299, 3) := by decide +kernel
theorem dX12_height_5 : decode cX12_height 5 = .ok (.ifCond .eq 17, 3) := by decide +kernel
theorem dX12_height_8 : decode cX12_height 8 = .ok (.aload_n 0, 1) := by decide +kernel
theorem dX12_height_9 : decode cX12_height 9 = .ok (.getfield 13, 3) := by decide +kernel
theorem dX12_height_12 : decode cX12_height 12 = .ok (.bipush 10, 2) := by decide +kernel
theorem dX12_height_14 : decode cX12_height 14 = .ok (.iconst 2, 1) := by decide +kernel
theorem dX12_height_15 : decode cX12_height 15 = .ok (.iload_n 1, 1) := by decide +kernel
theorem dX12_height_16 : decode cX12_height 16 = .ok (.imul, 1) := by decide +kernel
theorem dX12_height_17 : decode cX12_height 17 = .ok (.iadd, 1) := by decide +kernel
theorem dX12_height_18 : decode cX12_height 18 = .ok (.iaload, 1) := by decide +kernel
theorem dX12_height_19 : decode cX12_height 19 = .ok (.goto 6, 3) := by decide +kernel
theorem dX12_height_22 : decode cX12_height 22 = .ok (.ldc_w 302, 3) := by decide +kernel
theorem dX12_height_25 : decode cX12_height 25 = .ok (.ireturn, 1) := by decide +kernel
theorem dX12_upOf_0 : decode cX12_upOf 0 = .ok (.iload_n 0, 1) := by decide +kernel
theorem dX12_upOf_1 : decode cX12_upOf 1 = .ok (.iconst 1, 1) := by decide +kernel
theorem dX12_upOf_2 : decode cX12_upOf 2 = .ok (.if_icmp .ne 7, 3) := by decide +kernel
theorem dX12_upOf_5 : decode cX12_upOf 5 = .ok (.iconst 1, 1) := by decide +kernel
theorem dX12_upOf_6 : decode cX12_upOf 6 = .ok (.goto 13, 3) := by decide +kernel
theorem dX12_upOf_9 : decode cX12_upOf 9 = .ok (.iload_n 0, 1) := by decide +kernel
theorem dX12_upOf_10 : decode cX12_upOf 10 = .ok (.iconst 2, 1) := by decide +kernel
theorem dX12_upOf_11 : decode cX12_upOf 11 = .ok (.if_icmp .ne 7, 3) := by decide +kernel
theorem dX12_upOf_14 : decode cX12_upOf 14 = .ok (.iconst (-1), 1) := by decide +kernel
theorem dX12_upOf_15 : decode cX12_upOf 15 = .ok (.goto 4, 3) := by decide +kernel
theorem dX12_upOf_18 : decode cX12_upOf 18 = .ok (.iconst 0, 1) := by decide +kernel
theorem dX12_upOf_19 : decode cX12_upOf 19 = .ok (.ireturn, 1) := by decide +kernel
set_option maxRecDepth 20000 in
theorem ggX12_bends_X12_ofPipe : GoodIn wsX12_bends wsX12_ofPipe := goodIn_r _ [11, 12, 16, 17, 18, 19, 20, 21, 22, 23, 24, 25, 26, 27, 28, 29, 30, 31, 32, 33, 34, 35, 36, 37, 38, 39, 40, 41, 42, 43, 44, 45, 46, 47, 48, 49] (by decide +kernel) (by decide +kernel)
set_option maxRecDepth 20000 in
theorem gX12_bends_X12_ofPipe : GoodIn wsX12_bends (wsV RX12 308 RX12 yX12_ofPipe wsX12_ofPipe) := goodIn_app (goodIn_of _ (by decide +kernel)) ggX12_bends_X12_ofPipe
set_option maxRecDepth 20000 in
theorem ggX12_bends_X12_upOf : GoodIn wsX12_bends wsX12_upOf := goodIn_r _ [15] (by decide +kernel) (by decide +kernel)
set_option maxRecDepth 20000 in
theorem gX12_bends_X12_upOf : GoodIn wsX12_bends (va_wsS RX12 311 yX12_upOf wsX12_upOf) := goodIn_app (goodIn_of _ (by decide +kernel)) ggX12_bends_X12_upOf
theorem dX12_bends_0 : decode cX12_bends 0 = .ok (.aload_n 0, 1) := by decide +kernel
theorem dX12_bends_1 : decode cX12_bends 1 = .ok (.iconst 0, 1) := by decide +kernel
theorem dX12_bends_2 : decode cX12_bends 2 = .ok (.putfield 303, 3) := by decide +kernel
theorem dX12_bends_5 : decode cX12_bends 5 = .ok (.aload_n 0, 1) := by decide +kernel
theorem dX12_bends_6 : decode cX12_bends 6 = .ok (.iconst 0, 1) := by decide +kernel
theorem dX12_bends_7 : decode cX12_bends 7 = .ok (.putfield 306, 3) := by decide +kernel
theorem dX12_bends_10 : decode cX12_bends 10 = .ok (.iconst 0, 1) := by decide +kernel
theorem dX12_bends_11 : decode cX12_bends 11 = .ok (.istore_n 2, 1) := by decide +kernel
theorem dX12_bends_12 : decode cX12_bends 12 = .ok (.iconst 0, 1) := by decide +kernel
theorem dX12_bends_13 : decode cX12_bends 13 = .ok (.istore_n 3, 1) := by decide +kernel
theorem dX12_bends_14 : decode cX12_bends 14 = .ok (.iconst 0, 1) := by decide +kernel
theorem dX12_bends_15 : decode cX12_bends 15 = .ok (.istore 4, 2) := by decide +kernel
theorem dX12_bends_17 : decode cX12_bends 17 = .ok (.iload 4, 2) := by decide +kernel
theorem dX12_bends_19 : decode cX12_bends 19 = .ok (.aload_n 0, 1) := by decide +kernel
theorem dX12_bends_20 : decode cX12_bends 20 = .ok (.iload_n 1, 1) := by decide +kernel
theorem dX12_bends_21 : decode cX12_bends 21 = .ok (.iconst 3, 1) := by decide +kernel
theorem dX12_bends_22 : decode cX12_bends 22 = .ok (.invokevirtual 308, 3) := by decide +kernel
theorem dX12_bends_25 : decode cX12_bends 25 = .ok (.if_icmp .ge 197, 3) := by decide +kernel
theorem dX12_bends_28 : decode cX12_bends 28 = .ok (.aload_n 0, 1) := by decide +kernel
theorem dX12_bends_29 : decode cX12_bends 29 = .ok (.iload_n 1, 1) := by decide +kernel
theorem dX12_bends_30 : decode cX12_bends 30 = .ok (.bipush 8, 2) := by decide +kernel
theorem dX12_bends_32 : decode cX12_bends 32 = .ok (.iconst 2, 1) := by decide +kernel
theorem dX12_bends_33 : decode cX12_bends 33 = .ok (.iload 4, 2) := by decide +kernel
theorem dX12_bends_35 : decode cX12_bends 35 = .ok (.imul, 1) := by decide +kernel
theorem dX12_bends_36 : decode cX12_bends 36 = .ok (.iadd, 1) := by decide +kernel
theorem dX12_bends_37 : decode cX12_bends 37 = .ok (.invokevirtual 308, 3) := by decide +kernel
theorem dX12_bends_40 : decode cX12_bends 40 = .ok (.istore 5, 2) := by decide +kernel
theorem dX12_bends_42 : decode cX12_bends 42 = .ok (.aload_n 0, 1) := by decide +kernel
theorem dX12_bends_43 : decode cX12_bends 43 = .ok (.iload_n 1, 1) := by decide +kernel
theorem dX12_bends_44 : decode cX12_bends 44 = .ok (.bipush 8, 2) := by decide +kernel
theorem dX12_bends_46 : decode cX12_bends 46 = .ok (.iconst 2, 1) := by decide +kernel
theorem dX12_bends_47 : decode cX12_bends 47 = .ok (.iload 4, 2) := by decide +kernel
theorem dX12_bends_49 : decode cX12_bends 49 = .ok (.imul, 1) := by decide +kernel
theorem dX12_bends_50 : decode cX12_bends 50 = .ok (.iadd, 1) := by decide +kernel
theorem dX12_bends_51 : decode cX12_bends 51 = .ok (.iconst 1, 1) := by decide +kernel
theorem dX12_bends_52 : decode cX12_bends 52 = .ok (.iadd, 1) := by decide +kernel
theorem dX12_bends_53 : decode cX12_bends 53 = .ok (.invokevirtual 308, 3) := by decide +kernel
theorem dX12_bends_56 : decode cX12_bends 56 = .ok (.istore 6, 2) := by decide +kernel
theorem dX12_bends_58 : decode cX12_bends 58 = .ok (.iload_n 2, 1) := by decide +kernel
theorem dX12_bends_59 : decode cX12_bends 59 = .ok (.iload 5, 2) := by decide +kernel
theorem dX12_bends_61 : decode cX12_bends 61 = .ok (.ifCond .ne 8, 3) := by decide +kernel
theorem dX12_bends_64 : decode cX12_bends 64 = .ok (.iload 6, 2) := by decide +kernel
theorem dX12_bends_66 : decode cX12_bends 66 = .ok (.goto 4, 3) := by decide +kernel
theorem dX12_bends_69 : decode cX12_bends 69 = .ok (.iconst 0, 1) := by decide +kernel
theorem dX12_bends_70 : decode cX12_bends 70 = .ok (.iadd, 1) := by decide +kernel
theorem dX12_bends_71 : decode cX12_bends 71 = .ok (.istore_n 2, 1) := by decide +kernel
theorem dX12_bends_72 : decode cX12_bends 72 = .ok (.iload_n 3, 1) := by decide +kernel
theorem dX12_bends_73 : decode cX12_bends 73 = .ok (.iload 5, 2) := by decide +kernel
theorem dX12_bends_75 : decode cX12_bends 75 = .ok (.invokestatic 311, 3) := by decide +kernel
theorem dX12_bends_78 : decode cX12_bends 78 = .ok (.iload 6, 2) := by decide +kernel
theorem dX12_bends_80 : decode cX12_bends 80 = .ok (.imul, 1) := by decide +kernel
theorem dX12_bends_81 : decode cX12_bends 81 = .ok (.iadd, 1) := by decide +kernel
theorem dX12_bends_82 : decode cX12_bends 82 = .ok (.istore_n 3, 1) := by decide +kernel
theorem dX12_bends_83 : decode cX12_bends 83 = .ok (.aload_n 0, 1) := by decide +kernel
theorem dX12_bends_84 : decode cX12_bends 84 = .ok (.dup, 1) := by decide +kernel
theorem dX12_bends_85 : decode cX12_bends 85 = .ok (.getfield 306, 3) := by decide +kernel
theorem dX12_bends_88 : decode cX12_bends 88 = .ok (.iload 6, 2) := by decide +kernel
theorem dX12_bends_90 : decode cX12_bends 90 = .ok (.iadd, 1) := by decide +kernel
theorem dX12_bends_91 : decode cX12_bends 91 = .ok (.putfield 306, 3) := by decide +kernel
theorem dX12_bends_94 : decode cX12_bends 94 = .ok (.iload 4, 2) := by decide +kernel
theorem dX12_bends_96 : decode cX12_bends 96 = .ok (.iconst 1, 1) := by decide +kernel
theorem dX12_bends_97 : decode cX12_bends 97 = .ok (.iadd, 1) := by decide +kernel
theorem dX12_bends_98 : decode cX12_bends 98 = .ok (.aload_n 0, 1) := by decide +kernel
theorem dX12_bends_99 : decode cX12_bends 99 = .ok (.iload_n 1, 1) := by decide +kernel
theorem dX12_bends_100 : decode cX12_bends 100 = .ok (.iconst 3, 1) := by decide +kernel
theorem dX12_bends_101 : decode cX12_bends 101 = .ok (.invokevirtual 308, 3) := by decide +kernel
theorem dX12_bends_104 : decode cX12_bends 104 = .ok (.if_icmp .ne 6, 3) := by decide +kernel
theorem dX12_bends_107 : decode cX12_bends 107 = .ok (.goto 109, 3) := by decide +kernel
theorem dX12_bends_110 : decode cX12_bends 110 = .ok (.aload_n 0, 1) := by decide +kernel
theorem dX12_bends_111 : decode cX12_bends 111 = .ok (.iload_n 1, 1) := by decide +kernel
theorem dX12_bends_112 : decode cX12_bends 112 = .ok (.bipush 8, 2) := by decide +kernel
theorem dX12_bends_114 : decode cX12_bends 114 = .ok (.iconst 2, 1) := by decide +kernel
theorem dX12_bends_115 : decode cX12_bends 115 = .ok (.iload 4, 2) := by decide +kernel
theorem dX12_bends_117 : decode cX12_bends 117 = .ok (.imul, 1) := by decide +kernel
theorem dX12_bends_118 : decode cX12_bends 118 = .ok (.iadd, 1) := by decide +kernel
theorem dX12_bends_119 : decode cX12_bends 119 = .ok (.iconst 2, 1) := by decide +kernel
theorem dX12_bends_120 : decode cX12_bends 120 = .ok (.iadd, 1) := by decide +kernel
theorem dX12_bends_121 : decode cX12_bends 121 = .ok (.invokevirtual 308, 3) := by decide +kernel
theorem dX12_bends_124 : decode cX12_bends 124 = .ok (.istore 7, 2) := by decide +kernel
theorem dX12_bends_126 : decode cX12_bends 126 = .ok (.iload 5, 2) := by decide +kernel
theorem dX12_bends_128 : decode cX12_bends 128 = .ok (.iload 7, 2) := by decide +kernel
theorem dX12_bends_130 : decode cX12_bends 130 = .ok (.if_icmp .ne 6, 3) := by decide +kernel
theorem dX12_bends_133 : decode cX12_bends 133 = .ok (.goto 83, 3) := by decide +kernel
theorem dX12_bends_136 : decode cX12_bends 136 = .ok (.aload_n 0, 1) := by decide +kernel
theorem dX12_bends_137 : decode cX12_bends 137 = .ok (.getfield 37, 3) := by decide +kernel
theorem dX12_bends_140 : decode cX12_bends 140 = .ok (.aload_n 0, 1) := by decide +kernel
theorem dX12_bends_141 : decode cX12_bends 141 = .ok (.getfield 303, 3) := by decide +kernel
theorem dX12_bends_144 : decode cX12_bends 144 = .ok (.iload_n 2, 1) := by decide +kernel
theorem dX12_bends_145 : decode cX12_bends 145 = .ok (.iastore, 1) := by decide +kernel
theorem dX12_bends_146 : decode cX12_bends 146 = .ok (.aload_n 0, 1) := by decide +kernel
theorem dX12_bends_147 : decode cX12_bends 147 = .ok (.getfield 40, 3) := by decide +kernel
theorem dX12_bends_150 : decode cX12_bends 150 = .ok (.aload_n 0, 1) := by decide +kernel
theorem dX12_bends_151 : decode cX12_bends 151 = .ok (.getfield 303, 3) := by decide +kernel
theorem dX12_bends_154 : decode cX12_bends 154 = .ok (.iload_n 3, 1) := by decide +kernel
theorem dX12_bends_155 : decode cX12_bends 155 = .ok (.iastore, 1) := by decide +kernel
theorem dX12_bends_156 : decode cX12_bends 156 = .ok (.aload_n 0, 1) := by decide +kernel
theorem dX12_bends_157 : decode cX12_bends 157 = .ok (.getfield 43, 3) := by decide +kernel
theorem dX12_bends_160 : decode cX12_bends 160 = .ok (.aload_n 0, 1) := by decide +kernel
theorem dX12_bends_161 : decode cX12_bends 161 = .ok (.getfield 303, 3) := by decide +kernel
theorem dX12_bends_164 : decode cX12_bends 164 = .ok (.iload 5, 2) := by decide +kernel
theorem dX12_bends_166 : decode cX12_bends 166 = .ok (.ifCond .ne 7, 3) := by decide +kernel
theorem dX12_bends_169 : decode cX12_bends 169 = .ok (.iconst 1, 1) := by decide +kernel
theorem dX12_bends_170 : decode cX12_bends 170 = .ok (.goto 4, 3) := by decide +kernel
theorem dX12_bends_173 : decode cX12_bends 173 = .ok (.iconst 0, 1) := by decide +kernel
theorem dX12_bends_174 : decode cX12_bends 174 = .ok (.iload 7, 2) := by decide +kernel
theorem dX12_bends_176 : decode cX12_bends 176 = .ok (.ifCond .ne 7, 3) := by decide +kernel
theorem dX12_bends_179 : decode cX12_bends 179 = .ok (.iconst 1, 1) := by decide +kernel
theorem dX12_bends_180 : decode cX12_bends 180 = .ok (.goto 4, 3) := by decide +kernel
theorem dX12_bends_183 : decode cX12_bends 183 = .ok (.iconst 0, 1) := by decide +kernel
theorem dX12_bends_184 : decode cX12_bends 184 = .ok (.isub, 1) := by decide +kernel
theorem dX12_bends_185 : decode cX12_bends 185 = .ok (.iastore, 1) := by decide +kernel
theorem dX12_bends_186 : decode cX12_bends 186 = .ok (.aload_n 0, 1) := by decide +kernel
theorem dX12_bends_187 : decode cX12_bends 187 = .ok (.getfield 46, 3) := by decide +kernel
theorem dX12_bends_190 : decode cX12_bends 190 = .ok (.aload_n 0, 1) := by decide +kernel
theorem dX12_bends_191 : decode cX12_bends 191 = .ok (.getfield 303, 3) := by decide +kernel
theorem dX12_bends_194 : decode cX12_bends 194 = .ok (.iload 5, 2) := by decide +kernel
theorem dX12_bends_196 : decode cX12_bends 196 = .ok (.invokestatic 311, 3) := by decide +kernel
theorem dX12_bends_199 : decode cX12_bends 199 = .ok (.iload 7, 2) := by decide +kernel
theorem dX12_bends_201 : decode cX12_bends 201 = .ok (.invokestatic 311, 3) := by decide +kernel
theorem dX12_bends_204 : decode cX12_bends 204 = .ok (.isub, 1) := by decide +kernel
theorem dX12_bends_205 : decode cX12_bends 205 = .ok (.iastore, 1) := by decide +kernel
theorem dX12_bends_206 : decode cX12_bends 206 = .ok (.aload_n 0, 1) := by decide +kernel
theorem dX12_bends_207 : decode cX12_bends 207 = .ok (.dup, 1) := by decide +kernel
theorem dX12_bends_208 : decode cX12_bends 208 = .ok (.getfield 303, 3) := by decide +kernel
theorem dX12_bends_211 : decode cX12_bends 211 = .ok (.iconst 1, 1) := by decide +kernel
theorem dX12_bends_212 : decode cX12_bends 212 = .ok (.iadd, 1) := by decide +kernel
theorem dX12_bends_213 : decode cX12_bends 213 = .ok (.putfield 303, 3) := by decide +kernel
theorem dX12_bends_216 : decode cX12_bends 216 = .ok (.iinc 4 1, 3) := by decide +kernel
theorem dX12_bends_219 : decode cX12_bends 219 = .ok (.goto (-202), 3) := by decide +kernel
theorem dX12_bends_222 : decode cX12_bends 222 = .ok (.return_, 1) := by decide +kernel
set_option maxRecDepth 20000 in
theorem ggX12_leverOf_X12_bends : GoodIn wsX12_leverOf wsX12_bends := goodIn_r _ [14, 1, 15, 2, 4, 5, 3, 16, 17, 18, 13, 19, 20, 21, 22, 23, 24, 25, 26, 27, 28, 29, 30, 31, 32, 33, 34, 35, 36, 37, 38, 39, 40, 41, 42, 43, 44, 45, 46, 47, 48, 49, 50, 51, 52, 53, 54, 55, 56, 57] (by decide +kernel) (by decide +kernel)
set_option maxRecDepth 20000 in
theorem gX12_leverOf_X12_bends : GoodIn wsX12_leverOf (wsV RX12 314 RX12 yX12_bends wsX12_bends) := goodIn_app (goodIn_of _ (by decide +kernel)) ggX12_leverOf_X12_bends
theorem dX12_leverOf_0 : decode cX12_leverOf 0 = .ok (.aload_n 0, 1) := by decide +kernel
theorem dX12_leverOf_1 : decode cX12_leverOf 1 = .ok (.iload_n 1, 1) := by decide +kernel
theorem dX12_leverOf_2 : decode cX12_leverOf 2 = .ok (.invokevirtual 314, 3) := by decide +kernel
theorem dX12_leverOf_5 : decode cX12_leverOf 5 = .ok (.iconst 0, 1) := by decide +kernel
theorem dX12_leverOf_6 : decode cX12_leverOf 6 = .ok (.istore_n 2, 1) := by decide +kernel
theorem dX12_leverOf_7 : decode cX12_leverOf 7 = .ok (.iconst 0, 1) := by decide +kernel
theorem dX12_leverOf_8 : decode cX12_leverOf 8 = .ok (.istore_n 3, 1) := by decide +kernel
theorem dX12_leverOf_9 : decode cX12_leverOf 9 = .ok (.iload_n 3, 1) := by decide +kernel
theorem dX12_leverOf_10 : decode cX12_leverOf 10 = .ok (.aload_n 0, 1) := by decide +kernel
theorem dX12_leverOf_11 : decode cX12_leverOf 11 = .ok (.getfield 303, 3) := by decide +kernel
theorem dX12_leverOf_14 : decode cX12_leverOf 14 = .ok (.if_icmp .ge 39, 3) := by decide +kernel
theorem dX12_leverOf_17 : decode cX12_leverOf 17 = .ok (.iload_n 2, 1) := by decide +kernel
theorem dX12_leverOf_18 : decode cX12_leverOf 18 = .ok (.aload_n 0, 1) := by decide +kernel
theorem dX12_leverOf_19 : decode cX12_leverOf 19 = .ok (.getfield 37, 3) := by decide +kernel
theorem dX12_leverOf_22 : decode cX12_leverOf 22 = .ok (.iload_n 3, 1) := by decide +kernel
theorem dX12_leverOf_23 : decode cX12_leverOf 23 = .ok (.iaload, 1) := by decide +kernel
theorem dX12_leverOf_24 : decode cX12_leverOf 24 = .ok (.aload_n 0, 1) := by decide +kernel
theorem dX12_leverOf_25 : decode cX12_leverOf 25 = .ok (.getfield 46, 3) := by decide +kernel
theorem dX12_leverOf_28 : decode cX12_leverOf 28 = .ok (.iload_n 3, 1) := by decide +kernel
theorem dX12_leverOf_29 : decode cX12_leverOf 29 = .ok (.iaload, 1) := by decide +kernel
theorem dX12_leverOf_30 : decode cX12_leverOf 30 = .ok (.imul, 1) := by decide +kernel
theorem dX12_leverOf_31 : decode cX12_leverOf 31 = .ok (.aload_n 0, 1) := by decide +kernel
theorem dX12_leverOf_32 : decode cX12_leverOf 32 = .ok (.getfield 40, 3) := by decide +kernel
theorem dX12_leverOf_35 : decode cX12_leverOf 35 = .ok (.iload_n 3, 1) := by decide +kernel
theorem dX12_leverOf_36 : decode cX12_leverOf 36 = .ok (.iaload, 1) := by decide +kernel
theorem dX12_leverOf_37 : decode cX12_leverOf 37 = .ok (.aload_n 0, 1) := by decide +kernel
theorem dX12_leverOf_38 : decode cX12_leverOf 38 = .ok (.getfield 43, 3) := by decide +kernel
theorem dX12_leverOf_41 : decode cX12_leverOf 41 = .ok (.iload_n 3, 1) := by decide +kernel
theorem dX12_leverOf_42 : decode cX12_leverOf 42 = .ok (.iaload, 1) := by decide +kernel
theorem dX12_leverOf_43 : decode cX12_leverOf 43 = .ok (.imul, 1) := by decide +kernel
theorem dX12_leverOf_44 : decode cX12_leverOf 44 = .ok (.isub, 1) := by decide +kernel
theorem dX12_leverOf_45 : decode cX12_leverOf 45 = .ok (.iadd, 1) := by decide +kernel
theorem dX12_leverOf_46 : decode cX12_leverOf 46 = .ok (.istore_n 2, 1) := by decide +kernel
theorem dX12_leverOf_47 : decode cX12_leverOf 47 = .ok (.iinc 3 1, 3) := by decide +kernel
theorem dX12_leverOf_50 : decode cX12_leverOf 50 = .ok (.goto (-41), 3) := by decide +kernel
theorem dX12_leverOf_53 : decode cX12_leverOf 53 = .ok (.iload_n 2, 1) := by decide +kernel
theorem dX12_leverOf_54 : decode cX12_leverOf 54 = .ok (.invokestatic 317, 3) := by decide +kernel
theorem dX12_leverOf_57 : decode cX12_leverOf 57 = .ok (.ireturn, 1) := by decide +kernel
set_option maxRecDepth 20000 in
theorem ggX12_weightOf_X12_bends : GoodIn wsX12_weightOf wsX12_bends := goodIn_r _ [6, 7, 1, 8, 9, 10, 11, 12, 13, 14, 5, 15, 16, 17, 18, 19, 20, 21, 22, 23, 24, 25, 26, 27, 28, 29, 30, 31, 32, 33, 34, 35, 36, 37, 38, 39, 40, 41, 42, 43, 44, 45, 46, 47, 48, 49, 50, 51, 52, 53] (by decide +kernel) (by decide +kernel)
set_option maxRecDepth 20000 in
theorem gX12_weightOf_X12_bends : GoodIn wsX12_weightOf (wsV RX12 314 RX12 yX12_bends wsX12_bends) := goodIn_app (goodIn_of _ (by decide +kernel)) ggX12_weightOf_X12_bends
set_option maxRecDepth 20000 in
theorem ggX12_weightOf_X12_ofPipe : GoodIn wsX12_weightOf wsX12_ofPipe := goodIn_r _ [15, 16, 20, 21, 22, 23, 24, 25, 26, 27, 28, 29, 30, 31, 32, 33, 34, 35, 36, 37, 38, 39, 40, 41, 42, 43, 44, 45, 46, 47, 48, 49, 50, 51, 52, 53] (by decide +kernel) (by decide +kernel)
set_option maxRecDepth 20000 in
theorem gX12_weightOf_X12_ofPipe : GoodIn wsX12_weightOf (wsV RX12 308 RX12 yX12_ofPipe wsX12_ofPipe) := goodIn_app (goodIn_of _ (by decide +kernel)) ggX12_weightOf_X12_ofPipe
theorem dX12_weightOf_0 : decode cX12_weightOf 0 = .ok (.aload_n 0, 1) := by decide +kernel
theorem dX12_weightOf_1 : decode cX12_weightOf 1 = .ok (.iload_n 1, 1) := by decide +kernel
theorem dX12_weightOf_2 : decode cX12_weightOf 2 = .ok (.invokevirtual 314, 3) := by decide +kernel
theorem dX12_weightOf_5 : decode cX12_weightOf 5 = .ok (.aload_n 0, 1) := by decide +kernel
theorem dX12_weightOf_6 : decode cX12_weightOf 6 = .ok (.getfield 306, 3) := by decide +kernel
theorem dX12_weightOf_9 : decode cX12_weightOf 9 = .ok (.aload_n 0, 1) := by decide +kernel
theorem dX12_weightOf_10 : decode cX12_weightOf 10 = .ok (.iload_n 1, 1) := by decide +kernel
theorem dX12_weightOf_11 : decode cX12_weightOf 11 = .ok (.iconst 2, 1) := by decide +kernel
theorem dX12_weightOf_12 : decode cX12_weightOf 12 = .ok (.invokevirtual 308, 3) := by decide +kernel
theorem dX12_weightOf_15 : decode cX12_weightOf 15 = .ok (.imul, 1) := by decide +kernel
theorem dX12_weightOf_16 : decode cX12_weightOf 16 = .ok (.ireturn, 1) := by decide +kernel
set_option maxRecDepth 20000 in
theorem ggX12_holdsOf_X12_ofPipe : GoodIn wsX12_holdsOf wsX12_ofPipe := goodIn_r _ [5, 6, 7, 8, 9, 10, 11, 12, 13, 14, 15, 16, 17, 18, 19, 20, 21, 22, 23, 24, 25, 26, 27, 28, 29, 30, 31, 32, 33, 34, 35, 36, 37, 38, 39, 40] (by decide +kernel) (by decide +kernel)
set_option maxRecDepth 20000 in
theorem gX12_holdsOf_X12_ofPipe : GoodIn wsX12_holdsOf (wsV RX12 308 RX12 yX12_ofPipe wsX12_ofPipe) := goodIn_app (goodIn_of _ (by decide +kernel)) ggX12_holdsOf_X12_ofPipe
theorem dX12_holdsOf_0 : decode cX12_holdsOf 0 = .ok (.aload_n 0, 1) := by decide +kernel
theorem dX12_holdsOf_1 : decode cX12_holdsOf 1 = .ok (.iload_n 1, 1) := by decide +kernel
theorem dX12_holdsOf_2 : decode cX12_holdsOf 2 = .ok (.iconst 4, 1) := by decide +kernel
theorem dX12_holdsOf_3 : decode cX12_holdsOf 3 = .ok (.invokevirtual 308, 3) := by decide +kernel
theorem dX12_holdsOf_6 : decode cX12_holdsOf 6 = .ok (.aload_n 0, 1) := by decide +kernel
theorem dX12_holdsOf_7 : decode cX12_holdsOf 7 = .ok (.iload_n 1, 1) := by decide +kernel
theorem dX12_holdsOf_8 : decode cX12_holdsOf 8 = .ok (.bipush 7, 2) := by decide +kernel
theorem dX12_holdsOf_10 : decode cX12_holdsOf 10 = .ok (.invokevirtual 308, 3) := by decide +kernel
theorem dX12_holdsOf_13 : decode cX12_holdsOf 13 = .ok (.iadd, 1) := by decide +kernel
theorem dX12_holdsOf_14 : decode cX12_holdsOf 14 = .ok (.ireturn, 1) := by decide +kernel
set_option maxRecDepth 20000 in
theorem ggX12_pipe_X12_isPipe : GoodIn wsX12_pipe wsX12_isPipe := goodIn_r _ [9, 10, 11, 12, 8, 13, 45, 46, 47, 48, 49, 50, 51, 52, 53, 54, 55, 56, 57, 58, 59, 60, 61, 62, 63, 64, 65, 66, 67, 68, 69, 70, 71, 72, 73, 74, 75, 76, 77, 78] (by decide +kernel) (by decide +kernel)
set_option maxRecDepth 20000 in
theorem gX12_pipe_X12_isPipe : GoodIn wsX12_pipe (wsV RX12 320 RX12 yX12_isPipe wsX12_isPipe) := goodIn_app (goodIn_of _ (by decide +kernel)) ggX12_pipe_X12_isPipe
set_option maxRecDepth 20000 in
theorem ggX12_pipe_X12_in : GoodIn wsX12_pipe wsX12_in := goodIn_r _ [13] (by decide +kernel) (by decide +kernel)
set_option maxRecDepth 20000 in
theorem gX12_pipe_X12_in : GoodIn wsX12_pipe (va_wsS RX12 76 yX12_in wsX12_in) := goodIn_app (goodIn_of _ (by decide +kernel)) ggX12_pipe_X12_in
set_option maxRecDepth 20000 in
theorem ggX12_pipe_X12_bends : GoodIn wsX12_pipe wsX12_bends := goodIn_r _ [17, 3, 4, 18, 19, 20, 21, 22, 23, 24, 8, 25, 10, 26, 27, 28, 45, 46, 47, 48, 49, 50, 51, 52, 53, 54, 55, 56, 57, 58, 59, 60, 61, 62, 63, 64, 65, 66, 67, 68, 69, 70, 71, 72, 73, 74, 75, 76, 77, 78] (by decide +kernel) (by decide +kernel)
set_option maxRecDepth 20000 in
theorem gX12_pipe_X12_bends : GoodIn wsX12_pipe (wsV RX12 314 RX12 yX12_bends wsX12_bends) := goodIn_app (goodIn_of _ (by decide +kernel)) ggX12_pipe_X12_bends
set_option maxRecDepth 20000 in
theorem ggX12_pipe_X12_ofPipe : GoodIn wsX12_pipe wsX12_ofPipe := goodIn_r _ [25, 10, 45, 46, 47, 48, 49, 50, 51, 52, 53, 54, 55, 56, 57, 58, 59, 60, 61, 62, 63, 64, 65, 66, 67, 68, 69, 70, 71, 72, 73, 74, 75, 76, 77, 78] (by decide +kernel) (by decide +kernel)
set_option maxRecDepth 20000 in
theorem gX12_pipe_X12_ofPipe : GoodIn wsX12_pipe (wsV RX12 308 RX12 yX12_ofPipe wsX12_ofPipe) := goodIn_app (goodIn_of _ (by decide +kernel)) ggX12_pipe_X12_ofPipe
set_option maxRecDepth 20000 in
theorem ggX12_pipe_X12_weightOf : GoodIn wsX12_pipe wsX12_weightOf := goodIn_r _ [32, 4, 14, 15, 16, 8, 17, 3, 18, 19, 20, 21, 22, 23, 24, 25, 10, 26, 27, 28, 45, 46, 47, 48, 49, 50, 51, 52, 53, 54, 55, 56, 57, 58, 59, 60, 61, 62, 63, 64, 65, 66, 67, 68, 69, 70, 71, 72, 73, 74, 75, 76, 77, 78] (by decide +kernel) (by decide +kernel)
set_option maxRecDepth 20000 in
theorem gX12_pipe_X12_weightOf : GoodIn wsX12_pipe (wsV RX12 325 RX12 yX12_weightOf wsX12_weightOf) := goodIn_app (goodIn_of _ (by decide +kernel)) ggX12_pipe_X12_weightOf
set_option maxRecDepth 20000 in
theorem ggX12_pipe_X12_leverOf : GoodIn wsX12_pipe wsX12_leverOf := goodIn_r _ [36, 3, 18, 21, 19, 20, 37, 38, 39, 40, 14, 15, 16, 8, 17, 4, 22, 23, 24, 25, 10, 26, 27, 28, 45, 46, 47, 48, 49, 50, 51, 52, 53, 54, 55, 56, 57, 58, 59, 60, 61, 62, 63, 64, 65, 66, 67, 68, 69, 70, 71, 72, 73, 74, 75, 76, 77, 78] (by decide +kernel) (by decide +kernel)
set_option maxRecDepth 20000 in
theorem gX12_pipe_X12_leverOf : GoodIn wsX12_pipe (wsV RX12 328 RX12 yX12_leverOf wsX12_leverOf) := goodIn_app (goodIn_of _ (by decide +kernel)) ggX12_pipe_X12_leverOf
set_option maxRecDepth 20000 in
theorem ggX12_pipe_X12_holdsOf : GoodIn wsX12_pipe wsX12_holdsOf := goodIn_r _ [44, 22, 23, 24, 8, 25, 10, 45, 46, 47, 48, 49, 50, 51, 52, 53, 54, 55, 56, 57, 58, 59, 60, 61, 62, 63, 64, 65, 66, 67, 68, 69, 70, 71, 72, 73, 74, 75, 76, 77, 78] (by decide +kernel) (by decide +kernel)
set_option maxRecDepth 20000 in
theorem gX12_pipe_X12_holdsOf : GoodIn wsX12_pipe (wsV RX12 331 RX12 yX12_holdsOf wsX12_holdsOf) := goodIn_app (goodIn_of _ (by decide +kernel)) ggX12_pipe_X12_holdsOf
theorem dX12_pipe_0 : decode cX12_pipe 0 = .ok (.aload_n 0, 1) := by decide +kernel
theorem dX12_pipe_1 : decode cX12_pipe 1 = .ok (.iload_n 1, 1) := by decide +kernel
theorem dX12_pipe_2 : decode cX12_pipe 2 = .ok (.invokevirtual 320, 3) := by decide +kernel
theorem dX12_pipe_5 : decode cX12_pipe 5 = .ok (.ifCond .eq 15, 3) := by decide +kernel
theorem dX12_pipe_8 : decode cX12_pipe 8 = .ok (.iload_n 2, 1) := by decide +kernel
theorem dX12_pipe_9 : decode cX12_pipe 9 = .ok (.i2l, 1) := by decide +kernel
theorem dX12_pipe_10 : decode cX12_pipe 10 = .ok (.lconst 0, 1) := by decide +kernel
theorem dX12_pipe_11 : decode cX12_pipe 11 = .ok (.ldc2_w 323, 3) := by decide +kernel
theorem dX12_pipe_14 : decode cX12_pipe 14 = .ok (.invokestatic 76, 3) := by decide +kernel
theorem dX12_pipe_17 : decode cX12_pipe 17 = .ok (.ifCond .ne 7, 3) := by decide +kernel
theorem dX12_pipe_20 : decode cX12_pipe 20 = .ok (.ldc_w 302, 3) := by decide +kernel
theorem dX12_pipe_23 : decode cX12_pipe 23 = .ok (.ireturn, 1) := by decide +kernel
theorem dX12_pipe_24 : decode cX12_pipe 24 = .ok (.aload_n 0, 1) := by decide +kernel
theorem dX12_pipe_25 : decode cX12_pipe 25 = .ok (.iload_n 1, 1) := by decide +kernel
theorem dX12_pipe_26 : decode cX12_pipe 26 = .ok (.invokevirtual 314, 3) := by decide +kernel
theorem dX12_pipe_29 : decode cX12_pipe 29 = .ok (.iload_n 2, 1) := by decide +kernel
theorem dX12_pipe_30 : decode cX12_pipe 30 = .ok (.tableswitch 108 0 6 #[42, 49, 56, 61, 66, 72, 78], 42) := by decide +kernel
theorem dX12_pipe_72 : decode cX12_pipe 72 = .ok (.aload_n 0, 1) := by decide +kernel
theorem dX12_pipe_73 : decode cX12_pipe 73 = .ok (.iload_n 1, 1) := by decide +kernel
theorem dX12_pipe_74 : decode cX12_pipe 74 = .ok (.iconst 0, 1) := by decide +kernel
theorem dX12_pipe_75 : decode cX12_pipe 75 = .ok (.invokevirtual 308, 3) := by decide +kernel
theorem dX12_pipe_78 : decode cX12_pipe 78 = .ok (.ireturn, 1) := by decide +kernel
theorem dX12_pipe_79 : decode cX12_pipe 79 = .ok (.aload_n 0, 1) := by decide +kernel
theorem dX12_pipe_80 : decode cX12_pipe 80 = .ok (.iload_n 1, 1) := by decide +kernel
theorem dX12_pipe_81 : decode cX12_pipe 81 = .ok (.iconst 1, 1) := by decide +kernel
theorem dX12_pipe_82 : decode cX12_pipe 82 = .ok (.invokevirtual 308, 3) := by decide +kernel
theorem dX12_pipe_85 : decode cX12_pipe 85 = .ok (.ireturn, 1) := by decide +kernel
theorem dX12_pipe_86 : decode cX12_pipe 86 = .ok (.aload_n 0, 1) := by decide +kernel
theorem dX12_pipe_87 : decode cX12_pipe 87 = .ok (.getfield 303, 3) := by decide +kernel
theorem dX12_pipe_90 : decode cX12_pipe 90 = .ok (.ireturn, 1) := by decide +kernel
theorem dX12_pipe_91 : decode cX12_pipe 91 = .ok (.aload_n 0, 1) := by decide +kernel
theorem dX12_pipe_92 : decode cX12_pipe 92 = .ok (.getfield 306, 3) := by decide +kernel
theorem dX12_pipe_95 : decode cX12_pipe 95 = .ok (.ireturn, 1) := by decide +kernel
theorem dX12_pipe_96 : decode cX12_pipe 96 = .ok (.aload_n 0, 1) := by decide +kernel
theorem dX12_pipe_97 : decode cX12_pipe 97 = .ok (.iload_n 1, 1) := by decide +kernel
theorem dX12_pipe_98 : decode cX12_pipe 98 = .ok (.invokevirtual 325, 3) := by decide +kernel
theorem dX12_pipe_101 : decode cX12_pipe 101 = .ok (.ireturn, 1) := by decide +kernel
theorem dX12_pipe_102 : decode cX12_pipe 102 = .ok (.aload_n 0, 1) := by decide +kernel
theorem dX12_pipe_103 : decode cX12_pipe 103 = .ok (.iload_n 1, 1) := by decide +kernel
theorem dX12_pipe_104 : decode cX12_pipe 104 = .ok (.invokevirtual 328, 3) := by decide +kernel
theorem dX12_pipe_107 : decode cX12_pipe 107 = .ok (.ireturn, 1) := by decide +kernel
theorem dX12_pipe_108 : decode cX12_pipe 108 = .ok (.aload_n 0, 1) := by decide +kernel
theorem dX12_pipe_109 : decode cX12_pipe 109 = .ok (.iload_n 1, 1) := by decide +kernel
theorem dX12_pipe_110 : decode cX12_pipe 110 = .ok (.iconst 1, 1) := by decide +kernel
theorem dX12_pipe_111 : decode cX12_pipe 111 = .ok (.invokevirtual 308, 3) := by decide +kernel
theorem dX12_pipe_114 : decode cX12_pipe 114 = .ok (.aload_n 0, 1) := by decide +kernel
theorem dX12_pipe_115 : decode cX12_pipe 115 = .ok (.iload_n 1, 1) := by decide +kernel
theorem dX12_pipe_116 : decode cX12_pipe 116 = .ok (.iconst 0, 1) := by decide +kernel
theorem dX12_pipe_117 : decode cX12_pipe 117 = .ok (.invokevirtual 308, 3) := by decide +kernel
theorem dX12_pipe_120 : decode cX12_pipe 120 = .ok (.iconst 1, 1) := by decide +kernel
theorem dX12_pipe_121 : decode cX12_pipe 121 = .ok (.iadd, 1) := by decide +kernel
theorem dX12_pipe_122 : decode cX12_pipe 122 = .ok (.if_icmp .le 14, 3) := by decide +kernel
theorem dX12_pipe_125 : decode cX12_pipe 125 = .ok (.aload_n 0, 1) := by decide +kernel
theorem dX12_pipe_126 : decode cX12_pipe 126 = .ok (.iload_n 1, 1) := by decide +kernel
theorem dX12_pipe_127 : decode cX12_pipe 127 = .ok (.iconst 0, 1) := by decide +kernel
theorem dX12_pipe_128 : decode cX12_pipe 128 = .ok (.invokevirtual 308, 3) := by decide +kernel
theorem dX12_pipe_131 : decode cX12_pipe 131 = .ok (.iconst 1, 1) := by decide +kernel
theorem dX12_pipe_132 : decode cX12_pipe 132 = .ok (.iadd, 1) := by decide +kernel
theorem dX12_pipe_133 : decode cX12_pipe 133 = .ok (.goto 4, 3) := by decide +kernel
theorem dX12_pipe_136 : decode cX12_pipe 136 = .ok (.iconst (-1), 1) := by decide +kernel
theorem dX12_pipe_137 : decode cX12_pipe 137 = .ok (.ireturn, 1) := by decide +kernel
theorem dX12_pipe_138 : decode cX12_pipe 138 = .ok (.aload_n 0, 1) := by decide +kernel
theorem dX12_pipe_139 : decode cX12_pipe 139 = .ok (.iload_n 1, 1) := by decide +kernel
theorem dX12_pipe_140 : decode cX12_pipe 140 = .ok (.invokevirtual 331, 3) := by decide +kernel
theorem dX12_pipe_143 : decode cX12_pipe 143 = .ok (.ireturn, 1) := by decide +kernel
set_option maxRecDepth 20000 in
theorem ggX12_bend_X12_isPipe : GoodIn wsX12_bend wsX12_isPipe := goodIn_r _ [12, 13, 14, 15, 11, 16, 29, 30, 31, 32, 33, 34, 35, 36, 37, 38, 39, 40, 41, 42, 43, 44, 45, 46, 47, 48, 49, 50, 51, 52, 53, 54, 55, 56, 57, 58, 59, 60, 61, 62] (by decide +kernel) (by decide +kernel)
set_option maxRecDepth 20000 in
theorem gX12_bend_X12_isPipe : GoodIn wsX12_bend (wsV RX12 320 RX12 yX12_isPipe wsX12_isPipe) := goodIn_app (goodIn_of _ (by decide +kernel)) ggX12_bend_X12_isPipe
set_option maxRecDepth 20000 in
theorem ggX12_bend_X12_in : GoodIn wsX12_bend wsX12_in := goodIn_r _ [16] (by decide +kernel) (by decide +kernel)
set_option maxRecDepth 20000 in
theorem gX12_bend_X12_in : GoodIn wsX12_bend (va_wsS RX12 76 yX12_in wsX12_in) := goodIn_app (goodIn_of _ (by decide +kernel)) ggX12_bend_X12_in
set_option maxRecDepth 20000 in
theorem ggX12_bend_X12_bends : GoodIn wsX12_bend wsX12_bends := goodIn_r _ [20, 3, 21, 4, 5, 6, 7, 22, 23, 24, 11, 25, 13, 26, 27, 28, 29, 30, 31, 32, 33, 34, 35, 36, 37, 38, 39, 40, 41, 42, 43, 44, 45, 46, 47, 48, 49, 50, 51, 52, 53, 54, 55, 56, 57, 58, 59, 60, 61, 62] (by decide +kernel) (by decide +kernel)
set_option maxRecDepth 20000 in
theorem gX12_bend_X12_bends : GoodIn wsX12_bend (wsV RX12 314 RX12 yX12_bends wsX12_bends) := goodIn_app (goodIn_of _ (by decide +kernel)) ggX12_bend_X12_bends
theorem dX12_bend_0 : decode cX12_bend 0 = .ok (.aload_n 0, 1) := by decide +kernel
theorem dX12_bend_1 : decode cX12_bend 1 = .ok (.iload_n 1, 1) := by decide +kernel
theorem dX12_bend_2 : decode cX12_bend 2 = .ok (.invokevirtual 320, 3) := by decide +kernel
theorem dX12_bend_5 : decode cX12_bend 5 = .ok (.ifCond .eq 15, 3) := by decide +kernel
theorem dX12_bend_8 : decode cX12_bend 8 = .ok (.iload_n 3, 1) := by decide +kernel
theorem dX12_bend_9 : decode cX12_bend 9 = .ok (.i2l, 1) := by decide +kernel
theorem dX12_bend_10 : decode cX12_bend 10 = .ok (.lconst 0, 1) := by decide +kernel
theorem dX12_bend_11 : decode cX12_bend 11 = .ok (.ldc2_w 334, 3) := by decide +kernel
theorem dX12_bend_14 : decode cX12_bend 14 = .ok (.invokestatic 76, 3) := by decide +kernel
theorem dX12_bend_17 : decode cX12_bend 17 = .ok (.ifCond .ne 7, 3) := by decide +kernel
theorem dX12_bend_20 : decode cX12_bend 20 = .ok (.ldc_w 302, 3) := by decide +kernel
theorem dX12_bend_23 : decode cX12_bend 23 = .ok (.ireturn, 1) := by decide +kernel
theorem dX12_bend_24 : decode cX12_bend 24 = .ok (.aload_n 0, 1) := by decide +kernel
theorem dX12_bend_25 : decode cX12_bend 25 = .ok (.iload_n 1, 1) := by decide +kernel
theorem dX12_bend_26 : decode cX12_bend 26 = .ok (.invokevirtual 314, 3) := by decide +kernel
theorem dX12_bend_29 : decode cX12_bend 29 = .ok (.iload_n 2, 1) := by decide +kernel
theorem dX12_bend_30 : decode cX12_bend 30 = .ok (.i2l, 1) := by decide +kernel
theorem dX12_bend_31 : decode cX12_bend 31 = .ok (.lconst 0, 1) := by decide +kernel
theorem dX12_bend_32 : decode cX12_bend 32 = .ok (.aload_n 0, 1) := by decide +kernel
theorem dX12_bend_33 : decode cX12_bend 33 = .ok (.getfield 303, 3) := by decide +kernel
theorem dX12_bend_36 : decode cX12_bend 36 = .ok (.iconst 1, 1) := by decide +kernel
theorem dX12_bend_37 : decode cX12_bend 37 = .ok (.isub, 1) := by decide +kernel
theorem dX12_bend_38 : decode cX12_bend 38 = .ok (.i2l, 1) := by decide +kernel
theorem dX12_bend_39 : decode cX12_bend 39 = .ok (.invokestatic 76, 3) := by decide +kernel
theorem dX12_bend_42 : decode cX12_bend 42 = .ok (.ifCond .ne 7, 3) := by decide +kernel
theorem dX12_bend_45 : decode cX12_bend 45 = .ok (.ldc_w 302, 3) := by decide +kernel
theorem dX12_bend_48 : decode cX12_bend 48 = .ok (.ireturn, 1) := by decide +kernel
theorem dX12_bend_49 : decode cX12_bend 49 = .ok (.iload_n 3, 1) := by decide +kernel
theorem dX12_bend_50 : decode cX12_bend 50 = .ok (.ifCond .ne 12, 3) := by decide +kernel
theorem dX12_bend_53 : decode cX12_bend 53 = .ok (.aload_n 0, 1) := by decide +kernel
theorem dX12_bend_54 : decode cX12_bend 54 = .ok (.getfield 37, 3) := by decide +kernel
theorem dX12_bend_57 : decode cX12_bend 57 = .ok (.iload_n 2, 1) := by decide +kernel
theorem dX12_bend_58 : decode cX12_bend 58 = .ok (.iaload, 1) := by decide +kernel
theorem dX12_bend_59 : decode cX12_bend 59 = .ok (.goto 37, 3) := by decide +kernel
theorem dX12_bend_62 : decode cX12_bend 62 = .ok (.iload_n 3, 1) := by decide +kernel
theorem dX12_bend_63 : decode cX12_bend 63 = .ok (.iconst 1, 1) := by decide +kernel
theorem dX12_bend_64 : decode cX12_bend 64 = .ok (.if_icmp .ne 12, 3) := by decide +kernel
theorem dX12_bend_67 : decode cX12_bend 67 = .ok (.aload_n 0, 1) := by decide +kernel
theorem dX12_bend_68 : decode cX12_bend 68 = .ok (.getfield 40, 3) := by decide +kernel
theorem dX12_bend_71 : decode cX12_bend 71 = .ok (.iload_n 2, 1) := by decide +kernel
theorem dX12_bend_72 : decode cX12_bend 72 = .ok (.iaload, 1) := by decide +kernel
theorem dX12_bend_73 : decode cX12_bend 73 = .ok (.goto 23, 3) := by decide +kernel
theorem dX12_bend_76 : decode cX12_bend 76 = .ok (.iload_n 3, 1) := by decide +kernel
theorem dX12_bend_77 : decode cX12_bend 77 = .ok (.iconst 2, 1) := by decide +kernel
theorem dX12_bend_78 : decode cX12_bend 78 = .ok (.if_icmp .ne 12, 3) := by decide +kernel
theorem dX12_bend_81 : decode cX12_bend 81 = .ok (.aload_n 0, 1) := by decide +kernel
theorem dX12_bend_82 : decode cX12_bend 82 = .ok (.getfield 43, 3) := by decide +kernel
theorem dX12_bend_85 : decode cX12_bend 85 = .ok (.iload_n 2, 1) := by decide +kernel
theorem dX12_bend_86 : decode cX12_bend 86 = .ok (.iaload, 1) := by decide +kernel
