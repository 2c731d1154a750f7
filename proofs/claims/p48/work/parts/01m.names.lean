set_option maxRecDepth 20000 in
theorem ggX12_cap_X12_goesBy : GoodIn wsX12_cap wsX12_goesBy := goodIn_r _ [30, 14, 31, 15, 32, 33, 34, 35, 4, 36, 37, 38, 39, 40, 41, 42, 43, 44, 18, 45, 46, 47, 48, 49, 50, 51, 52, 53, 6, 54, 55, 56, 57, 58, 59, 60, 61, 62, 63, 64, 65, 66, 67, 68, 69, 70, 71, 72, 73, 74, 75, 76, 77, 78, 79, 80, 81, 82, 83, 84, 85, 86, 87, 88, 89, 90, 91, 92, 93, 94, 95, 96, 97, 98, 99, 100, 101, 102, 103, 104, 105, 106, 107, 108, 109, 110, 111, 112, 113, 114, 115, 116, 117, 118, 119] (by decide +kernel) (by decide +kernel)
set_option maxRecDepth 20000 in
theorem gX12_cap_X12_goesBy : GoodIn wsX12_cap (wsV RX12 381 RX12 yX12_goesBy wsX12_goesBy) := goodIn_app (goodIn_of _ (by decide +kernel)) ggX12_cap_X12_goesBy
theorem dX12_cap_0 : decode cX12_cap 0 = .ok (.aload_n 0, 1) := by decide +kernel
theorem dX12_cap_1 : decode cX12_cap 1 = .ok (.iload_n 1, 1) := by decide +kernel
theorem dX12_cap_2 : decode cX12_cap 2 = .ok (.invokevirtual 320, 3) := by decide +kernel
theorem dX12_cap_5 : decode cX12_cap 5 = .ok (.ifCond .ne 6, 3) := by decide +kernel
theorem dX12_cap_8 : decode cX12_cap 8 = .ok (.bipush (-2), 2) := by decide +kernel
theorem dX12_cap_10 : decode cX12_cap 10 = .ok (.ireturn, 1) := by decide +kernel
theorem dX12_cap_11 : decode cX12_cap 11 = .ok (.sipush 999, 3) := by decide +kernel
theorem dX12_cap_14 : decode cX12_cap 14 = .ok (.istore_n 2, 1) := by decide +kernel
theorem dX12_cap_15 : decode cX12_cap 15 = .ok (.iload_n 2, 1) := by decide +kernel
theorem dX12_cap_16 : decode cX12_cap 16 = .ok (.ifCond .lt 26, 3) := by decide +kernel
theorem dX12_cap_19 : decode cX12_cap 19 = .ok (.aload_n 0, 1) := by decide +kernel
theorem dX12_cap_20 : decode cX12_cap 20 = .ok (.iload_n 2, 1) := by decide +kernel
theorem dX12_cap_21 : decode cX12_cap 21 = .ok (.invokevirtual 395, 3) := by decide +kernel
theorem dX12_cap_24 : decode cX12_cap 24 = .ok (.aload_n 0, 1) := by decide +kernel
theorem dX12_cap_25 : decode cX12_cap 25 = .ok (.iload_n 1, 1) := by decide +kernel
theorem dX12_cap_26 : decode cX12_cap 26 = .ok (.iconst 0, 1) := by decide +kernel
theorem dX12_cap_27 : decode cX12_cap 27 = .ok (.invokevirtual 381, 3) := by decide +kernel
theorem dX12_cap_30 : decode cX12_cap 30 = .ok (.iconst (-1), 1) := by decide +kernel
theorem dX12_cap_31 : decode cX12_cap 31 = .ok (.if_icmp .ne 5, 3) := by decide +kernel
theorem dX12_cap_34 : decode cX12_cap 34 = .ok (.iload_n 2, 1) := by decide +kernel
theorem dX12_cap_35 : decode cX12_cap 35 = .ok (.ireturn, 1) := by decide +kernel
theorem dX12_cap_36 : decode cX12_cap 36 = .ok (.iinc 2 (-1), 3) := by decide +kernel
theorem dX12_cap_39 : decode cX12_cap 39 = .ok (.goto (-24), 3) := by decide +kernel
theorem dX12_cap_42 : decode cX12_cap 42 = .ok (.iconst (-1), 1) := by decide +kernel
theorem dX12_cap_43 : decode cX12_cap 43 = .ok (.ireturn, 1) := by decide +kernel
set_option maxRecDepth 20000 in
theorem ggX12_goesWith_X12_ofPipe : GoodIn wsX12_goesWith wsX12_ofPipe := goodIn_r _ [6, 1, 79, 80, 81, 82, 83, 84, 85, 86, 87, 88, 89, 90, 91, 92, 93, 94, 95, 96, 97, 98, 99, 100, 101, 102, 103, 104, 105, 106, 107, 108, 109, 110, 111, 112] (by decide +kernel) (by decide +kernel)
set_option maxRecDepth 20000 in
theorem gX12_goesWith_X12_ofPipe : GoodIn wsX12_goesWith (wsV RX12 308 RX12 yX12_ofPipe wsX12_ofPipe) := goodIn_app (goodIn_of _ (by decide +kernel)) ggX12_goesWith_X12_ofPipe
set_option maxRecDepth 20000 in
theorem ggX12_goesWith_X12_goesOf : GoodIn wsX12_goesWith wsX12_goesOf := goodIn_r _ [10, 11, 12, 13, 5, 14, 1, 15, 16, 17, 18, 19, 20, 21, 22, 23, 24, 25, 26, 27, 28, 29, 30, 31, 32, 33, 34, 35, 36, 37, 38, 39, 40, 41, 42, 43, 44, 45, 46, 2, 3, 4, 6, 47, 48, 49, 50, 51, 52, 53, 54, 55, 56, 57, 58, 59, 60, 61, 62, 63, 64, 65, 66, 67, 68, 69, 70, 71, 72, 73, 74, 75, 76, 77, 78, 79, 80, 81, 82, 83, 84, 85, 86, 87, 88, 89, 90, 91, 92, 93, 94, 95, 96, 97, 98, 99, 100, 101, 102, 103, 104, 105, 106, 107, 108, 109, 110, 111, 112] (by decide +kernel) (by decide +kernel)
set_option maxRecDepth 20000 in
theorem gX12_goesWith_X12_goesOf : GoodIn wsX12_goesWith (wsV RX12 384 RX12 yX12_goesOf wsX12_goesOf) := goodIn_app (goodIn_of _ (by decide +kernel)) ggX12_goesWith_X12_goesOf
theorem dX12_goesWith_0 : decode cX12_goesWith 0 = .ok (.aload_n 0, 1) := by decide +kernel
theorem dX12_goesWith_1 : decode cX12_goesWith 1 = .ok (.iload_n 1, 1) := by decide +kernel
theorem dX12_goesWith_2 : decode cX12_goesWith 2 = .ok (.iload_n 2, 1) := by decide +kernel
theorem dX12_goesWith_3 : decode cX12_goesWith 3 = .ok (.invokevirtual 308, 3) := by decide +kernel
theorem dX12_goesWith_6 : decode cX12_goesWith 6 = .ok (.istore 4, 2) := by decide +kernel
theorem dX12_goesWith_8 : decode cX12_goesWith 8 = .ok (.aload_n 0, 1) := by decide +kernel
theorem dX12_goesWith_9 : decode cX12_goesWith 9 = .ok (.getfield 13, 3) := by decide +kernel
theorem dX12_goesWith_12 : decode cX12_goesWith 12 = .ok (.bipush 26, 2) := by decide +kernel
theorem dX12_goesWith_14 : decode cX12_goesWith 14 = .ok (.bipush 24, 2) := by decide +kernel
theorem dX12_goesWith_16 : decode cX12_goesWith 16 = .ok (.iload_n 1, 1) := by decide +kernel
theorem dX12_goesWith_17 : decode cX12_goesWith 17 = .ok (.imul, 1) := by decide +kernel
theorem dX12_goesWith_18 : decode cX12_goesWith 18 = .ok (.iadd, 1) := by decide +kernel
theorem dX12_goesWith_19 : decode cX12_goesWith 19 = .ok (.iload_n 2, 1) := by decide +kernel
theorem dX12_goesWith_20 : decode cX12_goesWith 20 = .ok (.iadd, 1) := by decide +kernel
theorem dX12_goesWith_21 : decode cX12_goesWith 21 = .ok (.iload_n 3, 1) := by decide +kernel
theorem dX12_goesWith_22 : decode cX12_goesWith 22 = .ok (.iastore, 1) := by decide +kernel
theorem dX12_goesWith_23 : decode cX12_goesWith 23 = .ok (.aload_n 0, 1) := by decide +kernel
theorem dX12_goesWith_24 : decode cX12_goesWith 24 = .ok (.iload_n 1, 1) := by decide +kernel
theorem dX12_goesWith_25 : decode cX12_goesWith 25 = .ok (.invokevirtual 384, 3) := by decide +kernel
theorem dX12_goesWith_28 : decode cX12_goesWith 28 = .ok (.istore 5, 2) := by decide +kernel
theorem dX12_goesWith_30 : decode cX12_goesWith 30 = .ok (.aload_n 0, 1) := by decide +kernel
theorem dX12_goesWith_31 : decode cX12_goesWith 31 = .ok (.getfield 13, 3) := by decide +kernel
theorem dX12_goesWith_34 : decode cX12_goesWith 34 = .ok (.bipush 26, 2) := by decide +kernel
theorem dX12_goesWith_36 : decode cX12_goesWith 36 = .ok (.bipush 24, 2) := by decide +kernel
theorem dX12_goesWith_38 : decode cX12_goesWith 38 = .ok (.iload_n 1, 1) := by decide +kernel
theorem dX12_goesWith_39 : decode cX12_goesWith 39 = .ok (.imul, 1) := by decide +kernel
theorem dX12_goesWith_40 : decode cX12_goesWith 40 = .ok (.iadd, 1) := by decide +kernel
theorem dX12_goesWith_41 : decode cX12_goesWith 41 = .ok (.iload_n 2, 1) := by decide +kernel
theorem dX12_goesWith_42 : decode cX12_goesWith 42 = .ok (.iadd, 1) := by decide +kernel
theorem dX12_goesWith_43 : decode cX12_goesWith 43 = .ok (.iload 4, 2) := by decide +kernel
theorem dX12_goesWith_45 : decode cX12_goesWith 45 = .ok (.iastore, 1) := by decide +kernel
theorem dX12_goesWith_46 : decode cX12_goesWith 46 = .ok (.iload 5, 2) := by decide +kernel
theorem dX12_goesWith_48 : decode cX12_goesWith 48 = .ok (.ireturn, 1) := by decide +kernel
set_option maxRecDepth 20000 in
theorem ggX12_prop_X12_isPipe : GoodIn wsX12_prop wsX12_isPipe := goodIn_r _ [5, 6, 7, 8, 4, 9, 90, 91, 92, 93, 94, 95, 96, 97, 98, 99, 100, 101, 102, 103, 104, 105, 106, 107, 108, 109, 110, 111, 112, 113, 114, 115, 116, 117, 118, 119, 120, 121, 122, 123] (by decide +kernel) (by decide +kernel)
set_option maxRecDepth 20000 in
theorem gX12_prop_X12_isPipe : GoodIn wsX12_prop (wsV RX12 320 RX12 yX12_isPipe wsX12_isPipe) := goodIn_app (goodIn_of _ (by decide +kernel)) ggX12_prop_X12_isPipe
set_option maxRecDepth 20000 in
theorem ggX12_prop_X12_goesWith : GoodIn wsX12_prop wsX12_goesWith := goodIn_r _ [13, 6, 14, 15, 16, 4, 17, 18, 19, 20, 21, 22, 23, 24, 25, 26, 27, 28, 29, 30, 31, 32, 33, 34, 35, 36, 37, 38, 39, 40, 41, 42, 43, 44, 45, 46, 47, 48, 49, 50, 51, 52, 53, 54, 55, 56, 57, 58, 59, 60, 61, 62, 63, 64, 65, 66, 67, 68, 69, 70, 71, 72, 73, 74, 75, 76, 77, 78, 79, 80, 81, 82, 83, 84, 85, 86, 87, 88, 89, 90, 91, 92, 93, 94, 95, 96, 97, 98, 99, 100, 101, 102, 103, 104, 105, 106, 107, 108, 109, 110, 111, 112, 113, 114, 115, 116, 117, 118, 119, 120, 121, 122, 123] (by decide +kernel) (by decide +kernel)
set_option maxRecDepth 20000 in
theorem gX12_prop_X12_goesWith : GoodIn wsX12_prop (wsV RX12 398 RX12 yX12_goesWith wsX12_goesWith) := goodIn_app (goodIn_of _ (by decide +kernel)) ggX12_prop_X12_goesWith
theorem dX12_prop_0 : decode cX12_prop 0 = .ok (.aload_n 0, 1) := by decide +kernel
theorem dX12_prop_1 : decode cX12_prop 1 = .ok (.iload_n 1, 1) := by decide +kernel
theorem dX12_prop_2 : decode cX12_prop 2 = .ok (.invokevirtual 320, 3) := by decide +kernel
theorem dX12_prop_5 : decode cX12_prop 5 = .ok (.ifCond .eq 22, 3) := by decide +kernel
theorem dX12_prop_8 : decode cX12_prop 8 = .ok (.aload_n 0, 1) := by decide +kernel
theorem dX12_prop_9 : decode cX12_prop 9 = .ok (.iload_n 1, 1) := by decide +kernel
theorem dX12_prop_10 : decode cX12_prop 10 = .ok (.bipush 6, 2) := by decide +kernel
theorem dX12_prop_12 : decode cX12_prop 12 = .ok (.iload_n 2, 1) := by decide +kernel
theorem dX12_prop_13 : decode cX12_prop 13 = .ok (.ifCond .eq 7, 3) := by decide +kernel
theorem dX12_prop_16 : decode cX12_prop 16 = .ok (.iconst 1, 1) := by decide +kernel
theorem dX12_prop_17 : decode cX12_prop 17 = .ok (.goto 4, 3) := by decide +kernel
theorem dX12_prop_20 : decode cX12_prop 20 = .ok (.iconst 0, 1) := by decide +kernel
theorem dX12_prop_21 : decode cX12_prop 21 = .ok (.invokevirtual 398, 3) := by decide +kernel
theorem dX12_prop_24 : decode cX12_prop 24 = .ok (.goto 5, 3) := by decide +kernel
theorem dX12_prop_27 : decode cX12_prop 27 = .ok (.bipush (-2), 2) := by decide +kernel
theorem dX12_prop_29 : decode cX12_prop 29 = .ok (.ireturn, 1) := by decide +kernel
set_option maxRecDepth 20000 in
theorem ggX12_widen_X12_isPipe : GoodIn wsX12_widen wsX12_isPipe := goodIn_r _ [6, 7, 8, 9, 5, 10, 91, 92, 93, 94, 95, 96, 97, 98, 99, 100, 101, 102, 103, 104, 105, 106, 107, 108, 109, 110, 111, 112, 113, 114, 115, 116, 117, 118, 119, 120, 121, 122, 123, 124] (by decide +kernel) (by decide +kernel)
set_option maxRecDepth 20000 in
theorem gX12_widen_X12_isPipe : GoodIn wsX12_widen (wsV RX12 320 RX12 yX12_isPipe wsX12_isPipe) := goodIn_app (goodIn_of _ (by decide +kernel)) ggX12_widen_X12_isPipe
set_option maxRecDepth 20000 in
theorem ggX12_widen_X12_in : GoodIn wsX12_widen wsX12_in := goodIn_r _ [10] (by decide +kernel) (by decide +kernel)
set_option maxRecDepth 20000 in
theorem gX12_widen_X12_in : GoodIn wsX12_widen (va_wsS RX12 76 yX12_in wsX12_in) := goodIn_app (goodIn_of _ (by decide +kernel)) ggX12_widen_X12_in
set_option maxRecDepth 20000 in
theorem ggX12_widen_X12_goesWith : GoodIn wsX12_widen wsX12_goesWith := goodIn_r _ [14, 7, 15, 16, 17, 5, 18, 19, 20, 21, 22, 23, 24, 25, 26, 27, 28, 29, 30, 31, 32, 33, 34, 35, 36, 37, 38, 39, 40, 41, 42, 43, 44, 45, 46, 47, 48, 49, 50, 51, 52, 53, 54, 55, 56, 57, 58, 59, 60, 61, 62, 63, 64, 65, 66, 67, 68, 69, 70, 71, 72, 73, 74, 75, 76, 77, 78, 79, 80, 81, 82, 83, 84, 85, 86, 87, 88, 89, 90, 91, 92, 93, 94, 95, 96, 97, 98, 99, 100, 101, 102, 103, 104, 105, 106, 107, 108, 109, 110, 111, 112, 113, 114, 115, 116, 117, 118, 119, 120, 121, 122, 123, 124] (by decide +kernel) (by decide +kernel)
set_option maxRecDepth 20000 in
theorem gX12_widen_X12_goesWith : GoodIn wsX12_widen (wsV RX12 398 RX12 yX12_goesWith wsX12_goesWith) := goodIn_app (goodIn_of _ (by decide +kernel)) ggX12_widen_X12_goesWith
theorem dX12_widen_0 : decode cX12_widen 0 = .ok (.aload_n 0, 1) := by decide +kernel
theorem dX12_widen_1 : decode cX12_widen 1 = .ok (.iload_n 1, 1) := by decide +kernel
theorem dX12_widen_2 : decode cX12_widen 2 = .ok (.invokevirtual 320, 3) := by decide +kernel
theorem dX12_widen_5 : decode cX12_widen 5 = .ok (.ifCond .eq 25, 3) := by decide +kernel
theorem dX12_widen_8 : decode cX12_widen 8 = .ok (.iload_n 2, 1) := by decide +kernel
theorem dX12_widen_9 : decode cX12_widen 9 = .ok (.i2l, 1) := by decide +kernel
theorem dX12_widen_10 : decode cX12_widen 10 = .ok (.lconst 1, 1) := by decide +kernel
theorem dX12_widen_11 : decode cX12_widen 11 = .ok (.ldc2_w 401, 3) := by decide +kernel
theorem dX12_widen_14 : decode cX12_widen 14 = .ok (.invokestatic 76, 3) := by decide +kernel
theorem dX12_widen_17 : decode cX12_widen 17 = .ok (.ifCond .eq 13, 3) := by decide +kernel
theorem dX12_widen_20 : decode cX12_widen 20 = .ok (.aload_n 0, 1) := by decide +kernel
theorem dX12_widen_21 : decode cX12_widen 21 = .ok (.iload_n 1, 1) := by decide +kernel
theorem dX12_widen_22 : decode cX12_widen 22 = .ok (.iconst 2, 1) := by decide +kernel
theorem dX12_widen_23 : decode cX12_widen 23 = .ok (.iload_n 2, 1) := by decide +kernel
theorem dX12_widen_24 : decode cX12_widen 24 = .ok (.invokevirtual 398, 3) := by decide +kernel
theorem dX12_widen_27 : decode cX12_widen 27 = .ok (.goto 5, 3) := by decide +kernel
theorem dX12_widen_30 : decode cX12_widen 30 = .ok (.bipush (-2), 2) := by decide +kernel
theorem dX12_widen_32 : decode cX12_widen 32 = .ok (.ireturn, 1) := by decide +kernel
set_option maxRecDepth 20000 in
theorem ggX12_lever_X12_isSlot : GoodIn wsX12_lever wsX12_isSlot := goodIn_r _ [12, 13, 14, 15, 11, 16] (by decide +kernel) (by decide +kernel)
set_option maxRecDepth 20000 in
theorem gX12_lever_X12_isSlot : GoodIn wsX12_lever (va_wsS RX12 403 yX12_isSlot wsX12_isSlot) := goodIn_app (goodIn_of _ (by decide +kernel)) ggX12_lever_X12_isSlot
set_option maxRecDepth 20000 in
theorem ggX12_lever_X12_isPipe : GoodIn wsX12_lever wsX12_isPipe := goodIn_r _ [20, 7, 14, 15, 11, 16, 46, 47, 48, 49, 50, 51, 52, 53, 54, 55, 56, 57, 58, 59, 60, 61, 62, 63, 64, 65, 66, 67, 68, 69, 70, 71, 72, 73, 74, 75, 76, 77, 78, 79] (by decide +kernel) (by decide +kernel)
set_option maxRecDepth 20000 in
theorem gX12_lever_X12_isPipe : GoodIn wsX12_lever (wsV RX12 320 RX12 yX12_isPipe wsX12_isPipe) := goodIn_app (goodIn_of _ (by decide +kernel)) ggX12_lever_X12_isPipe
set_option maxRecDepth 20000 in
theorem ggX12_lever_X12_in : GoodIn wsX12_lever wsX12_in := goodIn_r _ [16] (by decide +kernel) (by decide +kernel)
set_option maxRecDepth 20000 in
theorem gX12_lever_X12_in : GoodIn wsX12_lever (va_wsS RX12 76 yX12_in wsX12_in) := goodIn_app (goodIn_of _ (by decide +kernel)) ggX12_lever_X12_in
set_option maxRecDepth 20000 in
theorem ggX12_lever_X12_upOf : GoodIn wsX12_lever wsX12_upOf := goodIn_r _ [23] (by decide +kernel) (by decide +kernel)
set_option maxRecDepth 20000 in
theorem gX12_lever_X12_upOf : GoodIn wsX12_lever (va_wsS RX12 311 yX12_upOf wsX12_upOf) := goodIn_app (goodIn_of _ (by decide +kernel)) ggX12_lever_X12_upOf
set_option maxRecDepth 20000 in
theorem ggX12_lever_X12_ofPipe : GoodIn wsX12_lever wsX12_ofPipe := goodIn_r _ [27, 7, 46, 47, 48, 49, 50, 51, 52, 53, 54, 55, 56, 57, 58, 59, 60, 61, 62, 63, 64, 65, 66, 67, 68, 69, 70, 71, 72, 73, 74, 75, 76, 77, 78, 79] (by decide +kernel) (by decide +kernel)
set_option maxRecDepth 20000 in
theorem gX12_lever_X12_ofPipe : GoodIn wsX12_lever (wsV RX12 308 RX12 yX12_ofPipe wsX12_ofPipe) := goodIn_app (goodIn_of _ (by decide +kernel)) ggX12_lever_X12_ofPipe
set_option maxRecDepth 20000 in
theorem ggX12_lever_X12_leverOf : GoodIn wsX12_lever wsX12_leverOf := goodIn_r _ [31, 32, 33, 34, 35, 36, 37, 38, 39, 40, 41, 42, 43, 11, 44, 45, 24, 25, 26, 27, 7, 21, 22, 23, 46, 47, 48, 49, 50, 51, 52, 53, 54, 55, 56, 57, 58, 59, 60, 61, 62, 63, 64, 65, 66, 67, 68, 69, 70, 71, 72, 73, 74, 75, 76, 77, 78, 79] (by decide +kernel) (by decide +kernel)
set_option maxRecDepth 20000 in
theorem gX12_lever_X12_leverOf : GoodIn wsX12_lever (wsV RX12 328 RX12 yX12_leverOf wsX12_leverOf) := goodIn_app (goodIn_of _ (by decide +kernel)) ggX12_lever_X12_leverOf
theorem dX12_lever_0 : decode cX12_lever 0 = .ok (.iload_n 1, 1) := by decide +kernel
theorem dX12_lever_1 : decode cX12_lever 1 = .ok (.invokestatic 403, 3) := by decide +kernel
theorem dX12_lever_4 : decode cX12_lever 4 = .ok (.ifCond .eq 11, 3) := by decide +kernel
theorem dX12_lever_7 : decode cX12_lever 7 = .ok (.aload_n 0, 1) := by decide +kernel
theorem dX12_lever_8 : decode cX12_lever 8 = .ok (.iload_n 2, 1) := by decide +kernel
theorem dX12_lever_9 : decode cX12_lever 9 = .ok (.invokevirtual 320, 3) := by decide +kernel
theorem dX12_lever_12 : decode cX12_lever 12 = .ok (.ifCond .ne 6, 3) := by decide +kernel
theorem dX12_lever_15 : decode cX12_lever 15 = .ok (.bipush (-2), 2) := by decide +kernel
theorem dX12_lever_17 : decode cX12_lever 17 = .ok (.ireturn, 1) := by decide +kernel
theorem dX12_lever_18 : decode cX12_lever 18 = .ok (.aload_n 0, 1) := by decide +kernel
theorem dX12_lever_19 : decode cX12_lever 19 = .ok (.getfield 61, 3) := by decide +kernel
theorem dX12_lever_22 : decode cX12_lever 22 = .ok (.iload_n 1, 1) := by decide +kernel
theorem dX12_lever_23 : decode cX12_lever 23 = .ok (.iaload, 1) := by decide +kernel
theorem dX12_lever_24 : decode cX12_lever 24 = .ok (.iconst (-1), 1) := by decide +kernel
theorem dX12_lever_25 : decode cX12_lever 25 = .ok (.if_icmp .ne 6, 3) := by decide +kernel
theorem dX12_lever_28 : decode cX12_lever 28 = .ok (.bipush (-6), 2) := by decide +kernel
theorem dX12_lever_30 : decode cX12_lever 30 = .ok (.ireturn, 1) := by decide +kernel
theorem dX12_lever_31 : decode cX12_lever 31 = .ok (.aload_n 0, 1) := by decide +kernel
theorem dX12_lever_32 : decode cX12_lever 32 = .ok (.getfield 61, 3) := by decide +kernel
theorem dX12_lever_35 : decode cX12_lever 35 = .ok (.iload_n 1, 1) := by decide +kernel
theorem dX12_lever_36 : decode cX12_lever 36 = .ok (.iaload, 1) := by decide +kernel
theorem dX12_lever_37 : decode cX12_lever 37 = .ok (.iconst 2, 1) := by decide +kernel
theorem dX12_lever_38 : decode cX12_lever 38 = .ok (.idiv, 1) := by decide +kernel
theorem dX12_lever_39 : decode cX12_lever 39 = .ok (.istore_n 3, 1) := by decide +kernel
theorem dX12_lever_40 : decode cX12_lever 40 = .ok (.iload_n 3, 1) := by decide +kernel
theorem dX12_lever_41 : decode cX12_lever 41 = .ok (.i2l, 1) := by decide +kernel
theorem dX12_lever_42 : decode cX12_lever 42 = .ok (.lconst 1, 1) := by decide +kernel
theorem dX12_lever_43 : decode cX12_lever 43 = .ok (.ldc2_w 406, 3) := by decide +kernel
theorem dX12_lever_46 : decode cX12_lever 46 = .ok (.invokestatic 76, 3) := by decide +kernel
theorem dX12_lever_49 : decode cX12_lever 49 = .ok (.ifCond .ne 6, 3) := by decide +kernel
theorem dX12_lever_52 : decode cX12_lever 52 = .ok (.bipush (-2), 2) := by decide +kernel
theorem dX12_lever_54 : decode cX12_lever 54 = .ok (.ireturn, 1) := by decide +kernel
theorem dX12_lever_55 : decode cX12_lever 55 = .ok (.lconst 0, 1) := by decide +kernel
theorem dX12_lever_56 : decode cX12_lever 56 = .ok (.lstore 4, 2) := by decide +kernel
theorem dX12_lever_58 : decode cX12_lever 58 = .ok (.lconst 0, 1) := by decide +kernel
theorem dX12_lever_59 : decode cX12_lever 59 = .ok (.lstore 6, 2) := by decide +kernel
theorem dX12_lever_61 : decode cX12_lever 61 = .ok (.iconst 0, 1) := by decide +kernel
theorem dX12_lever_62 : decode cX12_lever 62 = .ok (.istore 8, 2) := by decide +kernel
theorem dX12_lever_64 : decode cX12_lever 64 = .ok (.iload 8, 2) := by decide +kernel
theorem dX12_lever_66 : decode cX12_lever 66 = .ok (.iload_n 3, 1) := by decide +kernel
theorem dX12_lever_67 : decode cX12_lever 67 = .ok (.if_icmp .ge 103, 3) := by decide +kernel
theorem dX12_lever_70 : decode cX12_lever 70 = .ok (.aload_n 0, 1) := by decide +kernel
theorem dX12_lever_71 : decode cX12_lever 71 = .ok (.getfield 67, 3) := by decide +kernel
theorem dX12_lever_74 : decode cX12_lever 74 = .ok (.bipush 60, 2) := by decide +kernel
theorem dX12_lever_76 : decode cX12_lever 76 = .ok (.iload_n 1, 1) := by decide +kernel
theorem dX12_lever_77 : decode cX12_lever 77 = .ok (.imul, 1) := by decide +kernel
theorem dX12_lever_78 : decode cX12_lever 78 = .ok (.iconst 2, 1) := by decide +kernel
theorem dX12_lever_79 : decode cX12_lever 79 = .ok (.iload 8, 2) := by decide +kernel
theorem dX12_lever_81 : decode cX12_lever 81 = .ok (.imul, 1) := by decide +kernel
theorem dX12_lever_82 : decode cX12_lever 82 = .ok (.iadd, 1) := by decide +kernel
theorem dX12_lever_83 : decode cX12_lever 83 = .ok (.laload, 1) := by decide +kernel
theorem dX12_lever_84 : decode cX12_lever 84 = .ok (.lstore 9, 2) := by decide +kernel
theorem dX12_lever_86 : decode cX12_lever 86 = .ok (.aload_n 0, 1) := by decide +kernel
theorem dX12_lever_87 : decode cX12_lever 87 = .ok (.getfield 67, 3) := by decide +kernel
theorem dX12_lever_90 : decode cX12_lever 90 = .ok (.bipush 60, 2) := by decide +kernel
theorem dX12_lever_92 : decode cX12_lever 92 = .ok (.iload_n 1, 1) := by decide +kernel
theorem dX12_lever_93 : decode cX12_lever 93 = .ok (.imul, 1) := by decide +kernel
theorem dX12_lever_94 : decode cX12_lever 94 = .ok (.iconst 2, 1) := by decide +kernel
theorem dX12_lever_95 : decode cX12_lever 95 = .ok (.iload 8, 2) := by decide +kernel
theorem dX12_lever_97 : decode cX12_lever 97 = .ok (.imul, 1) := by decide +kernel
theorem dX12_lever_98 : decode cX12_lever 98 = .ok (.iadd, 1) := by decide +kernel
theorem dX12_lever_99 : decode cX12_lever 99 = .ok (.iconst 1, 1) := by decide +kernel
theorem dX12_lever_100 : decode cX12_lever 100 = .ok (.iadd, 1) := by decide +kernel
theorem dX12_lever_101 : decode cX12_lever 101 = .ok (.laload, 1) := by decide +kernel
theorem dX12_lever_102 : decode cX12_lever 102 = .ok (.lstore 11, 2) := by decide +kernel
theorem dX12_lever_104 : decode cX12_lever 104 = .ok (.lload 9, 2) := by decide +kernel
theorem dX12_lever_106 : decode cX12_lever 106 = .ok (.lconst 0, 1) := by decide +kernel
theorem dX12_lever_107 : decode cX12_lever 107 = .ok (.ldc2_w 74, 3) := by decide +kernel
theorem dX12_lever_110 : decode cX12_lever 110 = .ok (.invokestatic 76, 3) := by decide +kernel
theorem dX12_lever_113 : decode cX12_lever 113 = .ok (.ifCond .eq 15, 3) := by decide +kernel
theorem dX12_lever_116 : decode cX12_lever 116 = .ok (.lload 11, 2) := by decide +kernel
theorem dX12_lever_118 : decode cX12_lever 118 = .ok (.lconst 1, 1) := by decide +kernel
theorem dX12_lever_119 : decode cX12_lever 119 = .ok (.ldc2_w 408, 3) := by decide +kernel
theorem dX12_lever_122 : decode cX12_lever 122 = .ok (.invokestatic 76, 3) := by decide +kernel
theorem dX12_lever_125 : decode cX12_lever 125 = .ok (.ifCond .ne 6, 3) := by decide +kernel
theorem dX12_lever_128 : decode cX12_lever 128 = .ok (.bipush (-2), 2) := by decide +kernel
theorem dX12_lever_130 : decode cX12_lever 130 = .ok (.ireturn, 1) := by decide +kernel
theorem dX12_lever_131 : decode cX12_lever 131 = .ok (.lload 4, 2) := by decide +kernel
theorem dX12_lever_133 : decode cX12_lever 133 = .ok (.lload 9, 2) := by decide +kernel
theorem dX12_lever_135 : decode cX12_lever 135 = .ok (.lconst 0, 1) := by decide +kernel
theorem dX12_lever_136 : decode cX12_lever 136 = .ok (.lcmp, 1) := by decide +kernel
theorem dX12_lever_137 : decode cX12_lever 137 = .ok (.ifCond .ne 8, 3) := by decide +kernel
theorem dX12_lever_140 : decode cX12_lever 140 = .ok (.lload 11, 2) := by decide +kernel
theorem dX12_lever_142 : decode cX12_lever 142 = .ok (.goto 4, 3) := by decide +kernel
theorem dX12_lever_145 : decode cX12_lever 145 = .ok (.lconst 0, 1) := by decide +kernel
theorem dX12_lever_146 : decode cX12_lever 146 = .ok (.ladd, 1) := by decide +kernel
theorem dX12_lever_147 : decode cX12_lever 147 = .ok (.lstore 4, 2) := by decide +kernel
theorem dX12_lever_149 : decode cX12_lever 149 = .ok (.lload 6, 2) := by decide +kernel
theorem dX12_lever_151 : decode cX12_lever 151 = .ok (.lload 9, 2) := by decide +kernel
theorem dX12_lever_153 : decode cX12_lever 153 = .ok (.l2i, 1) := by decide +kernel
theorem dX12_lever_154 : decode cX12_lever 154 = .ok (.invokestatic 311, 3) := by decide +kernel
theorem dX12_lever_157 : decode cX12_lever 157 = .ok (.i2l, 1) := by decide +kernel
theorem dX12_lever_158 : decode cX12_lever 158 = .ok (.lload 11, 2) := by decide +kernel
theorem dX12_lever_160 : decode cX12_lever 160 = .ok (.lmul, 1) := by decide +kernel
theorem dX12_lever_161 : decode cX12_lever 161 = .ok (.ladd, 1) := by decide +kernel
theorem dX12_lever_162 : decode cX12_lever 162 = .ok (.lstore 6, 2) := by decide +kernel
theorem dX12_lever_164 : decode cX12_lever 164 = .ok (.iinc 8 1, 3) := by decide +kernel
theorem dX12_lever_167 : decode cX12_lever 167 = .ok (.goto (-103), 3) := by decide +kernel
theorem dX12_lever_170 : decode cX12_lever 170 = .ok (.aload_n 0, 1) := by decide +kernel
theorem dX12_lever_171 : decode cX12_lever 171 = .ok (.iload_n 2, 1) := by decide +kernel
theorem dX12_lever_172 : decode cX12_lever 172 = .ok (.iconst 0, 1) := by decide +kernel
theorem dX12_lever_173 : decode cX12_lever 173 = .ok (.invokevirtual 308, 3) := by decide +kernel
theorem dX12_lever_176 : decode cX12_lever 176 = .ok (.istore 8, 2) := by decide +kernel
theorem dX12_lever_178 : decode cX12_lever 178 = .ok (.aload_n 0, 1) := by decide +kernel
theorem dX12_lever_179 : decode cX12_lever 179 = .ok (.iload_n 2, 1) := by decide +kernel
theorem dX12_lever_180 : decode cX12_lever 180 = .ok (.iconst 1, 1) := by decide +kernel
theorem dX12_lever_181 : decode cX12_lever 181 = .ok (.invokevirtual 308, 3) := by decide +kernel
theorem dX12_lever_184 : decode cX12_lever 184 = .ok (.istore 9, 2) := by decide +kernel
theorem dX12_lever_186 : decode cX12_lever 186 = .ok (.lload 4, 2) := by decide +kernel
theorem dX12_lever_188 : decode cX12_lever 188 = .ok (.ldc2_w 336, 3) := by decide +kernel
theorem dX12_lever_191 : decode cX12_lever 191 = .ok (.iload 9, 2) := by decide +kernel
theorem dX12_lever_193 : decode cX12_lever 193 = .ok (.iload 8, 2) := by decide +kernel
theorem dX12_lever_195 : decode cX12_lever 195 = .ok (.isub, 1) := by decide +kernel
theorem dX12_lever_196 : decode cX12_lever 196 = .ok (.i2l, 1) := by decide +kernel
theorem dX12_lever_197 : decode cX12_lever 197 = .ok (.lmul, 1) := by decide +kernel
theorem dX12_lever_198 : decode cX12_lever 198 = .ok (.lcmp, 1) := by decide +kernel
theorem dX12_lever_199 : decode cX12_lever 199 = .ok (.ifCond .ne 35, 3) := by decide +kernel
theorem dX12_lever_202 : decode cX12_lever 202 = .ok (.lload 6, 2) := by decide +kernel
theorem dX12_lever_204 : decode cX12_lever 204 = .ok (.aload_n 0, 1) := by decide +kernel
theorem dX12_lever_205 : decode cX12_lever 205 = .ok (.getfield 13, 3) := by decide +kernel
theorem dX12_lever_208 : decode cX12_lever 208 = .ok (.bipush 10, 2) := by decide +kernel
theorem dX12_lever_210 : decode cX12_lever 210 = .ok (.iconst 2, 1) := by decide +kernel
theorem dX12_lever_211 : decode cX12_lever 211 = .ok (.iload 9, 2) := by decide +kernel
theorem dX12_lever_213 : decode cX12_lever 213 = .ok (.imul, 1) := by decide +kernel
theorem dX12_lever_214 : decode cX12_lever 214 = .ok (.iadd, 1) := by decide +kernel
theorem dX12_lever_215 : decode cX12_lever 215 = .ok (.iaload, 1) := by decide +kernel
theorem dX12_lever_216 : decode cX12_lever 216 = .ok (.aload_n 0, 1) := by decide +kernel
theorem dX12_lever_217 : decode cX12_lever 217 = .ok (.getfield 13, 3) := by decide +kernel
theorem dX12_lever_220 : decode cX12_lever 220 = .ok (.bipush 10, 2) := by decide +kernel
theorem dX12_lever_222 : decode cX12_lever 222 = .ok (.iconst 2, 1) := by decide +kernel
theorem dX12_lever_223 : decode cX12_lever 223 = .ok (.iload 8, 2) := by decide +kernel
theorem dX12_lever_225 : decode cX12_lever 225 = .ok (.imul, 1) := by decide +kernel
theorem dX12_lever_226 : decode cX12_lever 226 = .ok (.iadd, 1) := by decide +kernel
theorem dX12_lever_227 : decode cX12_lever 227 = .ok (.iaload, 1) := by decide +kernel
theorem dX12_lever_228 : decode cX12_lever 228 = .ok (.isub, 1) := by decide +kernel
theorem dX12_lever_229 : decode cX12_lever 229 = .ok (.i2l, 1) := by decide +kernel
theorem dX12_lever_230 : decode cX12_lever 230 = .ok (.lcmp, 1) := by decide +kernel
theorem dX12_lever_231 : decode cX12_lever 231 = .ok (.ifCond .eq 6, 3) := by decide +kernel
theorem dX12_lever_234 : decode cX12_lever 234 = .ok (.bipush (-5), 2) := by decide +kernel
theorem dX12_lever_236 : decode cX12_lever 236 = .ok (.ireturn, 1) := by decide +kernel
theorem dX12_lever_237 : decode cX12_lever 237 = .ok (.bipush 26, 2) := by decide +kernel
theorem dX12_lever_239 : decode cX12_lever 239 = .ok (.bipush 24, 2) := by decide +kernel
theorem dX12_lever_241 : decode cX12_lever 241 = .ok (.iload_n 2, 1) := by decide +kernel
theorem dX12_lever_242 : decode cX12_lever 242 = .ok (.imul, 1) := by decide +kernel
theorem dX12_lever_243 : decode cX12_lever 243 = .ok (.iadd, 1) := by decide +kernel
theorem dX12_lever_244 : decode cX12_lever 244 = .ok (.istore 10, 2) := by decide +kernel
theorem dX12_lever_246 : decode cX12_lever 246 = .ok (.aload_n 0, 1) := by decide +kernel
theorem dX12_lever_247 : decode cX12_lever 247 = .ok (.getfield 55, 3) := by decide +kernel
theorem dX12_lever_250 : decode cX12_lever 250 = .ok (.bipush 16, 2) := by decide +kernel
theorem dX12_lever_252 : decode cX12_lever 252 = .ok (.aload_n 0, 1) := by decide +kernel
theorem dX12_lever_253 : decode cX12_lever 253 = .ok (.getfield 13, 3) := by decide +kernel
theorem dX12_lever_256 : decode cX12_lever 256 = .ok (.iload 10, 2) := by decide +kernel
theorem dX12_lever_258 : decode cX12_lever 258 = .ok (.iconst 3, 1) := by decide +kernel
theorem dX12_lever_259 : decode cX12_lever 259 = .ok (.iadd, 1) := by decide +kernel
theorem dX12_lever_260 : decode cX12_lever 260 = .ok (.iaload, 1) := by decide +kernel
theorem dX12_lever_261 : decode cX12_lever 261 = .ok (.iastore, 1) := by decide +kernel
theorem dX12_lever_262 : decode cX12_lever 262 = .ok (.iconst 0, 1) := by decide +kernel
theorem dX12_lever_263 : decode cX12_lever 263 = .ok (.istore 11, 2) := by decide +kernel
theorem dX12_lever_265 : decode cX12_lever 265 = .ok (.iload 11, 2) := by decide +kernel
theorem dX12_lever_267 : decode cX12_lever 267 = .ok (.bipush 16, 2) := by decide +kernel
theorem dX12_lever_269 : decode cX12_lever 269 = .ok (.if_icmp .ge 29, 3) := by decide +kernel
theorem dX12_lever_272 : decode cX12_lever 272 = .ok (.aload_n 0, 1) := by decide +kernel
theorem dX12_lever_273 : decode cX12_lever 273 = .ok (.getfield 55, 3) := by decide +kernel
theorem dX12_lever_276 : decode cX12_lever 276 = .ok (.iload 11, 2) := by decide +kernel
theorem dX12_lever_278 : decode cX12_lever 278 = .ok (.aload_n 0, 1) := by decide +kernel
theorem dX12_lever_279 : decode cX12_lever 279 = .ok (.getfield 13, 3) := by decide +kernel
theorem dX12_lever_282 : decode cX12_lever 282 = .ok (.iload 10, 2) := by decide +kernel
theorem dX12_lever_284 : decode cX12_lever 284 = .ok (.bipush 8, 2) := by decide +kernel
theorem dX12_lever_286 : decode cX12_lever 286 = .ok (.iadd, 1) := by decide +kernel
theorem dX12_lever_287 : decode cX12_lever 287 = .ok (.iload 11, 2) := by decide +kernel
theorem dX12_lever_289 : decode cX12_lever 289 = .ok (.iadd, 1) := by decide +kernel
theorem dX12_lever_290 : decode cX12_lever 290 = .ok (.iaload, 1) := by decide +kernel
theorem dX12_lever_291 : decode cX12_lever 291 = .ok (.iastore, 1) := by decide +kernel
theorem dX12_lever_292 : decode cX12_lever 292 = .ok (.iinc 11 1, 3) := by decide +kernel
theorem dX12_lever_295 : decode cX12_lever 295 = .ok (.goto (-30), 3) := by decide +kernel
theorem dX12_lever_298 : decode cX12_lever 298 = .ok (.aload_n 0, 1) := by decide +kernel
theorem dX12_lever_299 : decode cX12_lever 299 = .ok (.getfield 13, 3) := by decide +kernel
theorem dX12_lever_302 : decode cX12_lever 302 = .ok (.iload 10, 2) := by decide +kernel
theorem dX12_lever_304 : decode cX12_lever 304 = .ok (.iconst 3, 1) := by decide +kernel
theorem dX12_lever_305 : decode cX12_lever 305 = .ok (.iadd, 1) := by decide +kernel
theorem dX12_lever_306 : decode cX12_lever 306 = .ok (.iload_n 3, 1) := by decide +kernel
theorem dX12_lever_307 : decode cX12_lever 307 = .ok (.iastore, 1) := by decide +kernel
theorem dX12_lever_308 : decode cX12_lever 308 = .ok (.iconst 0, 1) := by decide +kernel
theorem dX12_lever_309 : decode cX12_lever 309 = .ok (.istore 11, 2) := by decide +kernel
theorem dX12_lever_311 : decode cX12_lever 311 = .ok (.iload 11, 2) := by decide +kernel
theorem dX12_lever_313 : decode cX12_lever 313 = .ok (.iconst 2, 1) := by decide +kernel
theorem dX12_lever_314 : decode cX12_lever 314 = .ok (.iload_n 3, 1) := by decide +kernel
theorem dX12_lever_315 : decode cX12_lever 315 = .ok (.imul, 1) := by decide +kernel
theorem dX12_lever_316 : decode cX12_lever 316 = .ok (.if_icmp .ge 35, 3) := by decide +kernel
theorem dX12_lever_319 : decode cX12_lever 319 = .ok (.aload_n 0, 1) := by decide +kernel
theorem dX12_lever_320 : decode cX12_lever 320 = .ok (.getfield 13, 3) := by decide +kernel
theorem dX12_lever_323 : decode cX12_lever 323 = .ok (.iload 10, 2) := by decide +kernel
theorem dX12_lever_325 : decode cX12_lever 325 = .ok (.bipush 8, 2) := by decide +kernel
theorem dX12_lever_327 : decode cX12_lever 327 = .ok (.iadd, 1) := by decide +kernel
theorem dX12_lever_328 : decode cX12_lever 328 = .ok (.iload 11, 2) := by decide +kernel
theorem dX12_lever_330 : decode cX12_lever 330 = .ok (.iadd, 1) := by decide +kernel
theorem dX12_lever_331 : decode cX12_lever 331 = .ok (.aload_n 0, 1) := by decide +kernel
theorem dX12_lever_332 : decode cX12_lever 332 = .ok (.getfield 67, 3) := by decide +kernel
theorem dX12_lever_335 : decode cX12_lever 335 = .ok (.bipush 60, 2) := by decide +kernel
theorem dX12_lever_337 : decode cX12_lever 337 = .ok (.iload_n 1, 1) := by decide +kernel
theorem dX12_lever_338 : decode cX12_lever 338 = .ok (.imul, 1) := by decide +kernel
theorem dX12_lever_339 : decode cX12_lever 339 = .ok (.iload 11, 2) := by decide +kernel
theorem dX12_lever_341 : decode cX12_lever 341 = .ok (.iadd, 1) := by decide +kernel
theorem dX12_lever_342 : decode cX12_lever 342 = .ok (.laload, 1) := by decide +kernel
theorem dX12_lever_343 : decode cX12_lever 343 = .ok (.l2i, 1) := by decide +kernel
theorem dX12_lever_344 : decode cX12_lever 344 = .ok (.iastore, 1) := by decide +kernel
theorem dX12_lever_345 : decode cX12_lever 345 = .ok (.iinc 11 1, 3) := by decide +kernel
theorem dX12_lever_348 : decode cX12_lever 348 = .ok (.goto (-37), 3) := by decide +kernel
theorem dX12_lever_351 : decode cX12_lever 351 = .ok (.aload_n 0, 1) := by decide +kernel
theorem dX12_lever_352 : decode cX12_lever 352 = .ok (.iload_n 2, 1) := by decide +kernel
theorem dX12_lever_353 : decode cX12_lever 353 = .ok (.invokevirtual 328, 3) := by decide +kernel
theorem dX12_lever_356 : decode cX12_lever 356 = .ok (.istore 11, 2) := by decide +kernel
theorem dX12_lever_358 : decode cX12_lever 358 = .ok (.aload_n 0, 1) := by decide +kernel
theorem dX12_lever_359 : decode cX12_lever 359 = .ok (.getfield 13, 3) := by decide +kernel
theorem dX12_lever_362 : decode cX12_lever 362 = .ok (.iload 10, 2) := by decide +kernel
theorem dX12_lever_364 : decode cX12_lever 364 = .ok (.iconst 3, 1) := by decide +kernel
theorem dX12_lever_365 : decode cX12_lever 365 = .ok (.iadd, 1) := by decide +kernel
theorem dX12_lever_366 : decode cX12_lever 366 = .ok (.aload_n 0, 1) := by decide +kernel
theorem dX12_lever_367 : decode cX12_lever 367 = .ok (.getfield 55, 3) := by decide +kernel
theorem dX12_lever_370 : decode cX12_lever 370 = .ok (.bipush 16, 2) := by decide +kernel
theorem dX12_lever_372 : decode cX12_lever 372 = .ok (.iaload, 1) := by decide +kernel
theorem dX12_lever_373 : decode cX12_lever 373 = .ok (.iastore, 1) := by decide +kernel
theorem dX12_lever_374 : decode cX12_lever 374 = .ok (.iconst 0, 1) := by decide +kernel
theorem dX12_lever_375 : decode cX12_lever 375 = .ok (.istore 12, 2) := by decide +kernel
theorem dX12_lever_377 : decode cX12_lever 377 = .ok (.iload 12, 2) := by decide +kernel
theorem dX12_lever_379 : decode cX12_lever 379 = .ok (.bipush 16, 2) := by decide +kernel
theorem dX12_lever_381 : decode cX12_lever 381 = .ok (.if_icmp .ge 29, 3) := by decide +kernel
theorem dX12_lever_384 : decode cX12_lever 384 = .ok (.aload_n 0, 1) := by decide +kernel
theorem dX12_lever_385 : decode cX12_lever 385 = .ok (.getfield 13, 3) := by decide +kernel
theorem dX12_lever_388 : decode cX12_lever 388 = .ok (.iload 10, 2) := by decide +kernel
theorem dX12_lever_390 : decode cX12_lever 390 = .ok (.bipush 8, 2) := by decide +kernel
theorem dX12_lever_392 : decode cX12_lever 392 = .ok (.iadd, 1) := by decide +kernel
theorem dX12_lever_393 : decode cX12_lever 393 = .ok (.iload 12, 2) := by decide +kernel
theorem dX12_lever_395 : decode cX12_lever 395 = .ok (.iadd, 1) := by decide +kernel
theorem dX12_lever_396 : decode cX12_lever 396 = .ok (.aload_n 0, 1) := by decide +kernel
theorem dX12_lever_397 : decode cX12_lever 397 = .ok (.getfield 55, 3) := by decide +kernel
theorem dX12_lever_400 : decode cX12_lever 400 = .ok (.iload 12, 2) := by decide +kernel
theorem dX12_lever_402 : decode cX12_lever 402 = .ok (.iaload, 1) := by decide +kernel
theorem dX12_lever_403 : decode cX12_lever 403 = .ok (.iastore, 1) := by decide +kernel
theorem dX12_lever_404 : decode cX12_lever 404 = .ok (.iinc 12 1, 3) := by decide +kernel
theorem dX12_lever_407 : decode cX12_lever 407 = .ok (.goto (-30), 3) := by decide +kernel
theorem dX12_lever_410 : decode cX12_lever 410 = .ok (.iload 11, 2) := by decide +kernel
theorem dX12_lever_412 : decode cX12_lever 412 = .ok (.ireturn, 1) := by decide +kernel
set_option maxRecDepth 20000 in
theorem ggX12_shows_X12_goesOf : GoodIn wsX12_shows wsX12_goesOf := goodIn_r _ [6, 7, 8, 9, 5, 10, 1, 11, 12, 13, 14, 15, 16, 17, 18, 19, 20, 21, 22, 23, 24, 25, 26, 27, 28, 29, 30, 31, 32, 33, 34, 35, 36, 37, 38, 39, 40, 41, 42, 43, 44, 45, 46, 47, 48, 49, 50, 51, 52, 53, 54, 55, 56, 57, 58, 59, 60, 61, 62, 63, 64, 65, 66, 67, 68, 69, 70, 71, 72, 73, 74, 75, 76, 77, 78, 79, 80, 81, 82, 83, 84, 85, 86, 87, 88, 89, 90, 91, 92, 93, 94, 95, 96, 97, 98, 99, 100, 101, 102, 103, 104, 105, 106, 107, 108, 109, 110, 111, 112] (by decide +kernel) (by decide +kernel)
set_option maxRecDepth 20000 in
theorem gX12_shows_X12_goesOf : GoodIn wsX12_shows (wsV RX12 384 RX12 yX12_goesOf wsX12_goesOf) := goodIn_app (goodIn_of _ (by decide +kernel)) ggX12_shows_X12_goesOf
set_option maxRecDepth 20000 in
theorem ggX12_shows_X12_loadOf : GoodIn wsX12_shows wsX12_loadOf := goodIn_r _ [33, 34, 35, 36, 37, 15, 38, 39, 40, 41, 5, 42, 43, 44, 45, 46, 1, 47, 48, 49, 50, 51, 52, 53, 54, 55, 56, 57, 58, 59, 60, 61, 62, 63, 64, 65, 66, 67, 68, 69, 70, 71, 72, 73, 74, 79, 80, 81, 82, 83, 84, 85, 86, 87, 88, 89, 90, 91, 92, 93, 94, 95, 96, 97, 98, 99, 100, 101, 102, 103, 104, 105, 106, 107, 108, 109, 110, 111, 112] (by decide +kernel) (by decide +kernel)
set_option maxRecDepth 20000 in
theorem gX12_shows_X12_loadOf : GoodIn wsX12_shows (wsV RX12 352 RX12 yX12_loadOf wsX12_loadOf) := goodIn_app (goodIn_of _ (by decide +kernel)) ggX12_shows_X12_loadOf
theorem dX12_shows_0 : decode cX12_shows 0 = .ok (.iconst 0, 1) := by decide +kernel
theorem dX12_shows_1 : decode cX12_shows 1 = .ok (.istore_n 2, 1) := by decide +kernel
theorem dX12_shows_2 : decode cX12_shows 2 = .ok (.iconst 0, 1) := by decide +kernel
theorem dX12_shows_3 : decode cX12_shows 3 = .ok (.istore_n 3, 1) := by decide +kernel
theorem dX12_shows_4 : decode cX12_shows 4 = .ok (.iload_n 3, 1) := by decide +kernel
theorem dX12_shows_5 : decode cX12_shows 5 = .ok (.aload_n 0, 1) := by decide +kernel
theorem dX12_shows_6 : decode cX12_shows 6 = .ok (.getfield 13, 3) := by decide +kernel
theorem dX12_shows_9 : decode cX12_shows 9 = .ok (.iconst 2, 1) := by decide +kernel
theorem dX12_shows_10 : decode cX12_shows 10 = .ok (.iaload, 1) := by decide +kernel
theorem dX12_shows_11 : decode cX12_shows 11 = .ok (.if_icmp .ge 41, 3) := by decide +kernel
theorem dX12_shows_14 : decode cX12_shows 14 = .ok (.aload_n 0, 1) := by decide +kernel
theorem dX12_shows_15 : decode cX12_shows 15 = .ok (.iload_n 3, 1) := by decide +kernel
theorem dX12_shows_16 : decode cX12_shows 16 = .ok (.invokevirtual 384, 3) := by decide +kernel
theorem dX12_shows_19 : decode cX12_shows 19 = .ok (.iconst (-1), 1) := by decide +kernel
theorem dX12_shows_20 : decode cX12_shows 20 = .ok (.if_icmp .ne 6, 3) := by decide +kernel
theorem dX12_shows_23 : decode cX12_shows 23 = .ok (.goto 23, 3) := by decide +kernel
theorem dX12_shows_26 : decode cX12_shows 26 = .ok (.iload_n 2, 1) := by decide +kernel
theorem dX12_shows_27 : decode cX12_shows 27 = .ok (.aload_n 0, 1) := by decide +kernel
theorem dX12_shows_28 : decode cX12_shows 28 = .ok (.iload_n 3, 1) := by decide +kernel
theorem dX12_shows_29 : decode cX12_shows 29 = .ok (.iload_n 1, 1) := by decide +kernel
theorem dX12_shows_30 : decode cX12_shows 30 = .ok (.iconst 0, 1) := by decide +kernel
theorem dX12_shows_31 : decode cX12_shows 31 = .ok (.invokevirtual 352, 3) := by decide +kernel
theorem dX12_shows_34 : decode cX12_shows 34 = .ok (.bipush 100, 2) := by decide +kernel
theorem dX12_shows_36 : decode cX12_shows 36 = .ok (.if_icmp .le 7, 3) := by decide +kernel
theorem dX12_shows_39 : decode cX12_shows 39 = .ok (.iconst 1, 1) := by decide +kernel
theorem dX12_shows_40 : decode cX12_shows 40 = .ok (.goto 4, 3) := by decide +kernel
theorem dX12_shows_43 : decode cX12_shows 43 = .ok (.iconst 0, 1) := by decide +kernel
theorem dX12_shows_44 : decode cX12_shows 44 = .ok (.iadd, 1) := by decide +kernel
theorem dX12_shows_45 : decode cX12_shows 45 = .ok (.istore_n 2, 1) := by decide +kernel
theorem dX12_shows_46 : decode cX12_shows 46 = .ok (.iinc 3 1, 3) := by decide +kernel
theorem dX12_shows_49 : decode cX12_shows 49 = .ok (.goto (-45), 3) := by decide +kernel
theorem dX12_shows_52 : decode cX12_shows 52 = .ok (.iload_n 2, 1) := by decide +kernel
theorem dX12_shows_53 : decode cX12_shows 53 = .ok (.ireturn, 1) := by decide +kernel
set_option maxRecDepth 20000 in
theorem ggX12_trial_X12_isPress : GoodIn wsX12_trial wsX12_isPress := goodIn_r _ [4, 5, 6, 7, 3, 8] (by decide +kernel) (by decide +kernel)
set_option maxRecDepth 20000 in
theorem gX12_trial_X12_isPress : GoodIn wsX12_trial (va_wsS RX12 347 yX12_isPress wsX12_isPress) := goodIn_app (goodIn_of _ (by decide +kernel)) ggX12_trial_X12_isPress
set_option maxRecDepth 20000 in
theorem ggX12_trial_X12_shows : GoodIn wsX12_trial wsX12_shows := goodIn_r _ [12, 13, 14, 15, 16, 3, 17, 18, 19, 20, 21, 22, 23, 24, 25, 26, 27, 28, 29, 30, 31, 32, 33, 34, 35, 36, 37, 38, 39, 40, 41, 42, 43, 44, 45, 46, 47, 48, 49, 50, 51, 52, 53, 54, 55, 56, 57, 58, 59, 60, 61, 62, 63, 64, 65, 66, 67, 68, 69, 70, 71, 72, 73, 74, 75, 76, 77, 78, 79, 80, 81, 82, 83, 84, 85, 86, 87, 88, 89, 90, 91, 92, 93, 94, 95, 96, 97, 98, 99, 100, 101, 102, 103, 104, 105, 106, 107, 108, 109, 110, 111, 112, 113, 114, 115, 116, 117, 118, 119, 120, 121, 122, 123] (by decide +kernel) (by decide +kernel)
set_option maxRecDepth 20000 in
theorem gX12_trial_X12_shows : GoodIn wsX12_trial (wsV RX12 410 RX12 yX12_shows wsX12_shows) := goodIn_app (goodIn_of _ (by decide +kernel)) ggX12_trial_X12_shows
theorem dX12_trial_0 : decode cX12_trial 0 = .ok (.iload_n 1, 1) := by decide +kernel
theorem dX12_trial_1 : decode cX12_trial 1 = .ok (.invokestatic 347, 3) := by decide +kernel
theorem dX12_trial_4 : decode cX12_trial 4 = .ok (.ifCond .eq 11, 3) := by decide +kernel
theorem dX12_trial_7 : decode cX12_trial 7 = .ok (.aload_n 0, 1) := by decide +kernel
theorem dX12_trial_8 : decode cX12_trial 8 = .ok (.iload_n 1, 1) := by decide +kernel
theorem dX12_trial_9 : decode cX12_trial 9 = .ok (.invokevirtual 410, 3) := by decide +kernel
theorem dX12_trial_12 : decode cX12_trial 12 = .ok (.goto 5, 3) := by decide +kernel
theorem dX12_trial_15 : decode cX12_trial 15 = .ok (.bipush (-2), 2) := by decide +kernel
theorem dX12_trial_17 : decode cX12_trial 17 = .ok (.ireturn, 1) := by decide +kernel
set_option maxRecDepth 20000 in
theorem ggX12_show_X12_goesOf : GoodIn wsX12_show wsX12_goesOf := goodIn_r _ [10, 11, 12, 13, 9, 14, 1, 15, 16, 17, 18, 4, 19, 2, 3, 5, 20, 21, 22, 23, 24, 25, 26, 27, 28, 29, 30, 31, 32, 33, 34, 35, 36, 37, 38, 39, 40, 41, 42, 43, 44, 45, 46, 47, 48, 49, 50, 51, 52, 53, 54, 55, 56, 57, 58, 59, 60, 61, 62, 63, 64, 65, 66, 67, 68, 69, 70, 71, 72, 73, 74, 75, 76, 77, 78, 83, 84, 85, 86, 87, 88, 89, 90, 91, 92, 93, 94, 95, 96, 97, 98, 99, 100, 101, 102, 103, 104, 105, 106, 107, 108, 109, 110, 111, 112, 113, 114, 115, 116] (by decide +kernel) (by decide +kernel)
set_option maxRecDepth 20000 in
theorem gX12_show_X12_goesOf : GoodIn wsX12_show (wsV RX12 384 RX12 yX12_goesOf wsX12_goesOf) := goodIn_app (goodIn_of _ (by decide +kernel)) ggX12_show_X12_goesOf
set_option maxRecDepth 20000 in
theorem ggX12_show_X12_bowsOf : GoodIn wsX12_show wsX12_bowsOf := goodIn_r _ [82, 30, 31, 32, 9, 33, 34, 35, 36, 37, 4, 38, 39, 40, 41, 42, 43, 44, 45, 46, 1, 47, 48, 49, 50, 51, 52, 53, 54, 55, 56, 57, 58, 59, 60, 61, 62, 63, 64, 65, 66, 67, 68, 69, 70, 71, 72, 73, 74, 83, 84, 85, 86, 87, 88, 89, 90, 91, 92, 93, 94, 95, 96, 97, 98, 99, 100, 101, 102, 103, 104, 105, 106, 107, 108, 109, 110, 111, 112, 113, 114, 115, 116] (by decide +kernel) (by decide +kernel)
set_option maxRecDepth 20000 in
theorem gX12_show_X12_bowsOf : GoodIn wsX12_show (wsV RX12 356 RX12 yX12_bowsOf wsX12_bowsOf) := goodIn_app (goodIn_of _ (by decide +kernel)) ggX12_show_X12_bowsOf
theorem dX12_show_0 : decode cX12_show 0 = .ok (.iconst 0, 1) := by decide +kernel
theorem dX12_show_1 : decode cX12_show 1 = .ok (.istore_n 1, 1) := by decide +kernel
theorem dX12_show_2 : decode cX12_show 2 = .ok (.iconst 0, 1) := by decide +kernel
theorem dX12_show_3 : decode cX12_show 3 = .ok (.istore_n 2, 1) := by decide +kernel
theorem dX12_show_4 : decode cX12_show 4 = .ok (.iload_n 2, 1) := by decide +kernel
theorem dX12_show_5 : decode cX12_show 5 = .ok (.aload_n 0, 1) := by decide +kernel
theorem dX12_show_6 : decode cX12_show 6 = .ok (.getfield 13, 3) := by decide +kernel
theorem dX12_show_9 : decode cX12_show 9 = .ok (.iconst 2, 1) := by decide +kernel
theorem dX12_show_10 : decode cX12_show 10 = .ok (.iaload, 1) := by decide +kernel
theorem dX12_show_11 : decode cX12_show 11 = .ok (.if_icmp .ge 28, 3) := by decide +kernel
theorem dX12_show_14 : decode cX12_show 14 = .ok (.aload_n 0, 1) := by decide +kernel
theorem dX12_show_15 : decode cX12_show 15 = .ok (.iload_n 2, 1) := by decide +kernel
theorem dX12_show_16 : decode cX12_show 16 = .ok (.invokevirtual 384, 3) := by decide +kernel
theorem dX12_show_19 : decode cX12_show 19 = .ok (.iconst (-1), 1) := by decide +kernel
theorem dX12_show_20 : decode cX12_show 20 = .ok (.if_icmp .eq 13, 3) := by decide +kernel
theorem dX12_show_23 : decode cX12_show 23 = .ok (.iload_n 1, 1) := by decide +kernel
theorem dX12_show_24 : decode cX12_show 24 = .ok (.aload_n 0, 1) := by decide +kernel
theorem dX12_show_25 : decode cX12_show 25 = .ok (.iload_n 2, 1) := by decide +kernel
theorem dX12_show_26 : decode cX12_show 26 = .ok (.invokevirtual 356, 3) := by decide +kernel
theorem dX12_show_29 : decode cX12_show 29 = .ok (.invokestatic 365, 3) := by decide +kernel
theorem dX12_show_32 : decode cX12_show 32 = .ok (.istore_n 1, 1) := by decide +kernel
theorem dX12_show_33 : decode cX12_show 33 = .ok (.iinc 2 1, 3) := by decide +kernel
theorem dX12_show_36 : decode cX12_show 36 = .ok (.goto (-32), 3) := by decide +kernel
theorem dX12_show_39 : decode cX12_show 39 = .ok (.iload_n 1, 1) := by decide +kernel
theorem dX12_show_40 : decode cX12_show 40 = .ok (.ireturn, 1) := by decide +kernel
theorem dX12_rootOf_0 : decode cX12_rootOf 0 = .ok (.iconst 0, 1) := by decide +kernel
theorem dX12_rootOf_1 : decode cX12_rootOf 1 = .ok (.istore_n 1, 1) := by decide +kernel
theorem dX12_rootOf_2 : decode cX12_rootOf 2 = .ok (.iload_n 1, 1) := by decide +kernel
theorem dX12_rootOf_3 : decode cX12_rootOf 3 = .ok (.iconst 1, 1) := by decide +kernel
theorem dX12_rootOf_4 : decode cX12_rootOf 4 = .ok (.iadd, 1) := by decide +kernel
theorem dX12_rootOf_5 : decode cX12_rootOf 5 = .ok (.iload_n 1, 1) := by decide +kernel
theorem dX12_rootOf_6 : decode cX12_rootOf 6 = .ok (.iconst 1, 1) := by decide +kernel
theorem dX12_rootOf_7 : decode cX12_rootOf 7 = .ok (.iadd, 1) := by decide +kernel
theorem dX12_rootOf_8 : decode cX12_rootOf 8 = .ok (.imul, 1) := by decide +kernel
theorem dX12_rootOf_9 : decode cX12_rootOf 9 = .ok (.iload_n 0, 1) := by decide +kernel
theorem dX12_rootOf_10 : decode cX12_rootOf 10 = .ok (.if_icmp .gt 9, 3) := by decide +kernel
theorem dX12_rootOf_13 : decode cX12_rootOf 13 = .ok (.iinc 1 1, 3) := by decide +kernel
theorem dX12_rootOf_16 : decode cX12_rootOf 16 = .ok (.goto (-14), 3) := by decide +kernel
theorem dX12_rootOf_19 : decode cX12_rootOf 19 = .ok (.iload_n 1, 1) := by decide +kernel
theorem dX12_rootOf_20 : decode cX12_rootOf 20 = .ok (.ireturn, 1) := by decide +kernel
set_option maxRecDepth 20000 in
theorem ggX12_reachOf_X12_ofPipe : GoodIn wsX12_reachOf wsX12_ofPipe := goodIn_r _ [6, 1, 10, 11, 12, 13, 14, 15, 16, 17, 18, 19, 20, 21, 22, 23, 24, 25, 26, 27, 28, 29, 30, 31, 32, 33, 34, 35, 36, 37, 38, 39, 40, 41, 42, 43] (by decide +kernel) (by decide +kernel)
set_option maxRecDepth 20000 in
theorem gX12_reachOf_X12_ofPipe : GoodIn wsX12_reachOf (wsV RX12 308 RX12 yX12_ofPipe wsX12_ofPipe) := goodIn_app (goodIn_of _ (by decide +kernel)) ggX12_reachOf_X12_ofPipe
set_option maxRecDepth 20000 in
theorem ggX12_reachOf_X12_rootOf : GoodIn wsX12_reachOf wsX12_rootOf := goodIn_r _ [9] (by decide +kernel) (by decide +kernel)
set_option maxRecDepth 20000 in
theorem gX12_reachOf_X12_rootOf : GoodIn wsX12_reachOf (va_wsS RX12 413 yX12_rootOf wsX12_rootOf) := goodIn_app (goodIn_of _ (by decide +kernel)) ggX12_reachOf_X12_rootOf
theorem dX12_reachOf_0 : decode cX12_reachOf 0 = .ok (.aload_n 0, 1) := by decide +kernel
theorem dX12_reachOf_1 : decode cX12_reachOf 1 = .ok (.getfield 13, 3) := by decide +kernel
theorem dX12_reachOf_4 : decode cX12_reachOf 4 = .ok (.sipush 482, 3) := by decide +kernel
theorem dX12_reachOf_7 : decode cX12_reachOf 7 = .ok (.iload_n 2, 1) := by decide +kernel
theorem dX12_reachOf_8 : decode cX12_reachOf 8 = .ok (.iadd, 1) := by decide +kernel
theorem dX12_reachOf_9 : decode cX12_reachOf 9 = .ok (.iaload, 1) := by decide +kernel
theorem dX12_reachOf_10 : decode cX12_reachOf 10 = .ok (.aload_n 0, 1) := by decide +kernel
theorem dX12_reachOf_11 : decode cX12_reachOf 11 = .ok (.iload_n 1, 1) := by decide +kernel
theorem dX12_reachOf_12 : decode cX12_reachOf 12 = .ok (.iconst 2, 1) := by decide +kernel
theorem dX12_reachOf_13 : decode cX12_reachOf 13 = .ok (.invokevirtual 308, 3) := by decide +kernel
theorem dX12_reachOf_16 : decode cX12_reachOf 16 = .ok (.imul, 1) := by decide +kernel
theorem dX12_reachOf_17 : decode cX12_reachOf 17 = .ok (.iload_n 3, 1) := by decide +kernel
theorem dX12_reachOf_18 : decode cX12_reachOf 18 = .ok (.imul, 1) := by decide +kernel
theorem dX12_reachOf_19 : decode cX12_reachOf 19 = .ok (.invokestatic 413, 3) := by decide +kernel
theorem dX12_reachOf_22 : decode cX12_reachOf 22 = .ok (.ireturn, 1) := by decide +kernel
set_option maxRecDepth 20000 in
theorem ggX12_reach_X12_isPipe : GoodIn wsX12_reach wsX12_isPipe := goodIn_r _ [6, 7, 8, 9, 5, 10, 26, 27, 28, 29, 30, 31, 32, 33, 34, 35, 36, 37, 38, 39, 40, 41, 42, 43, 44, 45, 46, 47, 48, 49, 50, 51, 52, 53, 54, 55, 56, 57, 58, 59] (by decide +kernel) (by decide +kernel)
set_option maxRecDepth 20000 in
theorem gX12_reach_X12_isPipe : GoodIn wsX12_reach (wsV RX12 320 RX12 yX12_isPipe wsX12_isPipe) := goodIn_app (goodIn_of _ (by decide +kernel)) ggX12_reach_X12_isPipe
set_option maxRecDepth 20000 in
theorem ggX12_reach_X12_isHour : GoodIn wsX12_reach wsX12_isHour := goodIn_r _ [14, 7, 8, 9, 5, 10, 26, 27, 28, 29, 30, 31, 32, 33, 34, 35, 36, 37, 38, 39, 40, 41, 42, 43, 44, 45, 46, 47, 48, 49, 50, 51, 52, 53, 54, 55, 56, 57, 58, 59] (by decide +kernel) (by decide +kernel)
set_option maxRecDepth 20000 in
theorem gX12_reach_X12_isHour : GoodIn wsX12_reach (wsV RX12 359 RX12 yX12_isHour wsX12_isHour) := goodIn_app (goodIn_of _ (by decide +kernel)) ggX12_reach_X12_isHour
set_option maxRecDepth 20000 in
theorem ggX12_reach_X12_in : GoodIn wsX12_reach wsX12_in := goodIn_r _ [10] (by decide +kernel) (by decide +kernel)
set_option maxRecDepth 20000 in
theorem gX12_reach_X12_in : GoodIn wsX12_reach (va_wsS RX12 76 yX12_in wsX12_in) := goodIn_app (goodIn_of _ (by decide +kernel)) ggX12_reach_X12_in
set_option maxRecDepth 20000 in
theorem ggX12_reach_X12_reachOf : GoodIn wsX12_reach wsX12_reachOf := goodIn_r _ [18, 7, 19, 20, 21, 5, 22, 23, 24, 25, 26, 27, 28, 29, 30, 31, 32, 33, 34, 35, 36, 37, 38, 39, 40, 41, 42, 43, 44, 45, 46, 47, 48, 49, 50, 51, 52, 53, 54, 55, 56, 57, 58, 59] (by decide +kernel) (by decide +kernel)
set_option maxRecDepth 20000 in
theorem gX12_reach_X12_reachOf : GoodIn wsX12_reach (wsV RX12 418 RX12 yX12_reachOf wsX12_reachOf) := goodIn_app (goodIn_of _ (by decide +kernel)) ggX12_reach_X12_reachOf
theorem dX12_reach_0 : decode cX12_reach 0 = .ok (.aload_n 0, 1) := by decide +kernel
theorem dX12_reach_1 : decode cX12_reach 1 = .ok (.iload_n 1, 1) := by decide +kernel
theorem dX12_reach_2 : decode cX12_reach 2 = .ok (.invokevirtual 320, 3) := by decide +kernel
theorem dX12_reach_5 : decode cX12_reach 5 = .ok (.ifCond .eq 33, 3) := by decide +kernel
theorem dX12_reach_8 : decode cX12_reach 8 = .ok (.aload_n 0, 1) := by decide +kernel
theorem dX12_reach_9 : decode cX12_reach 9 = .ok (.iload_n 2, 1) := by decide +kernel
theorem dX12_reach_10 : decode cX12_reach 10 = .ok (.invokevirtual 359, 3) := by decide +kernel
theorem dX12_reach_13 : decode cX12_reach 13 = .ok (.ifCond .eq 25, 3) := by decide +kernel
theorem dX12_reach_16 : decode cX12_reach 16 = .ok (.iload_n 3, 1) := by decide +kernel
theorem dX12_reach_17 : decode cX12_reach 17 = .ok (.i2l, 1) := by decide +kernel
theorem dX12_reach_18 : decode cX12_reach 18 = .ok (.lconst 1, 1) := by decide +kernel
theorem dX12_reach_19 : decode cX12_reach 19 = .ok (.ldc2_w 416, 3) := by decide +kernel
theorem dX12_reach_22 : decode cX12_reach 22 = .ok (.invokestatic 76, 3) := by decide +kernel
theorem dX12_reach_25 : decode cX12_reach 25 = .ok (.ifCond .eq 13, 3) := by decide +kernel
theorem dX12_reach_28 : decode cX12_reach 28 = .ok (.aload_n 0, 1) := by decide +kernel
theorem dX12_reach_29 : decode cX12_reach 29 = .ok (.iload_n 1, 1) := by decide +kernel
theorem dX12_reach_30 : decode cX12_reach 30 = .ok (.iload_n 2, 1) := by decide +kernel
theorem dX12_reach_31 : decode cX12_reach 31 = .ok (.iload_n 3, 1) := by decide +kernel
theorem dX12_reach_32 : decode cX12_reach 32 = .ok (.invokevirtual 418, 3) := by decide +kernel
theorem dX12_reach_35 : decode cX12_reach 35 = .ok (.goto 5, 3) := by decide +kernel
theorem dX12_reach_38 : decode cX12_reach 38 = .ok (.bipush (-2), 2) := by decide +kernel
theorem dX12_reach_40 : decode cX12_reach 40 = .ok (.ireturn, 1) := by decide +kernel
set_option maxRecDepth 20000 in
theorem ggX12_awayOf_X12_ofPipe : GoodIn wsX12_awayOf wsX12_ofPipe := goodIn_r _ [13, 1, 18, 19, 20, 21, 22, 23, 24, 25, 26, 27, 28, 29, 30, 31, 32, 33, 34, 35, 36, 37, 38, 39, 40, 41, 42, 43, 44, 45, 46, 47, 48, 49, 50, 51] (by decide +kernel) (by decide +kernel)
set_option maxRecDepth 20000 in
theorem gX12_awayOf_X12_ofPipe : GoodIn wsX12_awayOf (wsV RX12 308 RX12 yX12_ofPipe wsX12_ofPipe) := goodIn_app (goodIn_of _ (by decide +kernel)) ggX12_awayOf_X12_ofPipe
set_option maxRecDepth 20000 in
theorem ggX12_awayOf_X12_ofRoom : GoodIn wsX12_awayOf wsX12_ofRoom := goodIn_r _ [17, 1, 18, 19, 20, 21, 22, 23, 24, 25, 26, 27, 28, 29, 30, 31, 32, 33, 34, 35, 36, 37, 38, 39, 40, 41, 42, 43, 44, 45, 46, 47, 48, 49, 50, 51] (by decide +kernel) (by decide +kernel)
set_option maxRecDepth 20000 in
theorem gX12_awayOf_X12_ofRoom : GoodIn wsX12_awayOf (wsV RX12 424 RX12 yX12_ofRoom wsX12_ofRoom) := goodIn_app (goodIn_of _ (by decide +kernel)) ggX12_awayOf_X12_ofRoom
theorem dX12_awayOf_0 : decode cX12_awayOf 0 = .ok (.iload_n 3, 1) := by decide +kernel
theorem dX12_awayOf_1 : decode cX12_awayOf 1 = .ok (.aload_n 0, 1) := by decide +kernel
theorem dX12_awayOf_2 : decode cX12_awayOf 2 = .ok (.getfield 13, 3) := by decide +kernel
theorem dX12_awayOf_5 : decode cX12_awayOf 5 = .ok (.bipush 8, 2) := by decide +kernel
theorem dX12_awayOf_7 : decode cX12_awayOf 7 = .ok (.iaload, 1) := by decide +kernel
theorem dX12_awayOf_8 : decode cX12_awayOf 8 = .ok (.imul, 1) := by decide +kernel
theorem dX12_awayOf_9 : decode cX12_awayOf 9 = .ok (.istore 4, 2) := by decide +kernel
theorem dX12_awayOf_11 : decode cX12_awayOf 11 = .ok (.bipush 50, 2) := by decide +kernel
theorem dX12_awayOf_13 : decode cX12_awayOf 13 = .ok (.aload_n 0, 1) := by decide +kernel
theorem dX12_awayOf_14 : decode cX12_awayOf 14 = .ok (.iload_n 1, 1) := by decide +kernel
theorem dX12_awayOf_15 : decode cX12_awayOf 15 = .ok (.iconst 0, 1) := by decide +kernel
theorem dX12_awayOf_16 : decode cX12_awayOf 16 = .ok (.invokevirtual 308, 3) := by decide +kernel
theorem dX12_awayOf_19 : decode cX12_awayOf 19 = .ok (.aload_n 0, 1) := by decide +kernel
theorem dX12_awayOf_20 : decode cX12_awayOf 20 = .ok (.iload_n 1, 1) := by decide +kernel
theorem dX12_awayOf_21 : decode cX12_awayOf 21 = .ok (.iconst 1, 1) := by decide +kernel
theorem dX12_awayOf_22 : decode cX12_awayOf 22 = .ok (.invokevirtual 308, 3) := by decide +kernel
theorem dX12_awayOf_25 : decode cX12_awayOf 25 = .ok (.iadd, 1) := by decide +kernel
theorem dX12_awayOf_26 : decode cX12_awayOf 26 = .ok (.imul, 1) := by decide +kernel
theorem dX12_awayOf_27 : decode cX12_awayOf 27 = .ok (.aload_n 0, 1) := by decide +kernel
theorem dX12_awayOf_28 : decode cX12_awayOf 28 = .ok (.getfield 13, 3) := by decide +kernel
theorem dX12_awayOf_31 : decode cX12_awayOf 31 = .ok (.bipush 7, 2) := by decide +kernel
theorem dX12_awayOf_33 : decode cX12_awayOf 33 = .ok (.iaload, 1) := by decide +kernel
theorem dX12_awayOf_34 : decode cX12_awayOf 34 = .ok (.ifCond .ne 9, 3) := by decide +kernel
theorem dX12_awayOf_37 : decode cX12_awayOf 37 = .ok (.iload 4, 2) := by decide +kernel
theorem dX12_awayOf_39 : decode cX12_awayOf 39 = .ok (.ineg, 1) := by decide +kernel
theorem dX12_awayOf_40 : decode cX12_awayOf 40 = .ok (.goto 20, 3) := by decide +kernel
theorem dX12_awayOf_43 : decode cX12_awayOf 43 = .ok (.aload_n 0, 1) := by decide +kernel
theorem dX12_awayOf_44 : decode cX12_awayOf 44 = .ok (.getfield 13, 3) := by decide +kernel
theorem dX12_awayOf_47 : decode cX12_awayOf 47 = .ok (.bipush 7, 2) := by decide +kernel
theorem dX12_awayOf_49 : decode cX12_awayOf 49 = .ok (.iaload, 1) := by decide +kernel
theorem dX12_awayOf_50 : decode cX12_awayOf 50 = .ok (.iconst 1, 1) := by decide +kernel
theorem dX12_awayOf_51 : decode cX12_awayOf 51 = .ok (.if_icmp .ne 8, 3) := by decide +kernel
theorem dX12_awayOf_54 : decode cX12_awayOf 54 = .ok (.iload 4, 2) := by decide +kernel
theorem dX12_awayOf_56 : decode cX12_awayOf 56 = .ok (.goto 4, 3) := by decide +kernel
theorem dX12_awayOf_59 : decode cX12_awayOf 59 = .ok (.iconst 0, 1) := by decide +kernel
theorem dX12_awayOf_60 : decode cX12_awayOf 60 = .ok (.iadd, 1) := by decide +kernel
theorem dX12_awayOf_61 : decode cX12_awayOf 61 = .ok (.istore 5, 2) := by decide +kernel
theorem dX12_awayOf_63 : decode cX12_awayOf 63 = .ok (.aload_n 0, 1) := by decide +kernel
theorem dX12_awayOf_64 : decode cX12_awayOf 64 = .ok (.getfield 13, 3) := by decide +kernel
theorem dX12_awayOf_67 : decode cX12_awayOf 67 = .ok (.bipush 7, 2) := by decide +kernel
theorem dX12_awayOf_69 : decode cX12_awayOf 69 = .ok (.iaload, 1) := by decide +kernel
theorem dX12_awayOf_70 : decode cX12_awayOf 70 = .ok (.iconst 2, 1) := by decide +kernel
theorem dX12_awayOf_71 : decode cX12_awayOf 71 = .ok (.if_icmp .ne 8, 3) := by decide +kernel
theorem dX12_awayOf_74 : decode cX12_awayOf 74 = .ok (.iload 4, 2) := by decide +kernel
theorem dX12_awayOf_76 : decode cX12_awayOf 76 = .ok (.goto 21, 3) := by decide +kernel
theorem dX12_awayOf_79 : decode cX12_awayOf 79 = .ok (.aload_n 0, 1) := by decide +kernel
theorem dX12_awayOf_80 : decode cX12_awayOf 80 = .ok (.getfield 13, 3) := by decide +kernel
theorem dX12_awayOf_83 : decode cX12_awayOf 83 = .ok (.bipush 7, 2) := by decide +kernel
theorem dX12_awayOf_85 : decode cX12_awayOf 85 = .ok (.iaload, 1) := by decide +kernel
theorem dX12_awayOf_86 : decode cX12_awayOf 86 = .ok (.iconst 3, 1) := by decide +kernel
theorem dX12_awayOf_87 : decode cX12_awayOf 87 = .ok (.if_icmp .ne 9, 3) := by decide +kernel
theorem dX12_awayOf_90 : decode cX12_awayOf 90 = .ok (.iload 4, 2) := by decide +kernel
theorem dX12_awayOf_92 : decode cX12_awayOf 92 = .ok (.ineg, 1) := by decide +kernel
theorem dX12_awayOf_93 : decode cX12_awayOf 93 = .ok (.goto 4, 3) := by decide +kernel
theorem dX12_awayOf_96 : decode cX12_awayOf 96 = .ok (.iconst 0, 1) := by decide +kernel
theorem dX12_awayOf_97 : decode cX12_awayOf 97 = .ok (.istore 6, 2) := by decide +kernel
theorem dX12_awayOf_99 : decode cX12_awayOf 99 = .ok (.iload_n 2, 1) := by decide +kernel
theorem dX12_awayOf_100 : decode cX12_awayOf 100 = .ok (.aload_n 0, 1) := by decide +kernel
theorem dX12_awayOf_101 : decode cX12_awayOf 101 = .ok (.getfield 58, 3) := by decide +kernel
theorem dX12_awayOf_104 : decode cX12_awayOf 104 = .ok (.if_icmp .ne 10, 3) := by decide +kernel
theorem dX12_awayOf_107 : decode cX12_awayOf 107 = .ok (.aload_n 0, 1) := by decide +kernel
theorem dX12_awayOf_108 : decode cX12_awayOf 108 = .ok (.getfield 421, 3) := by decide +kernel
theorem dX12_awayOf_111 : decode cX12_awayOf 111 = .ok (.goto 9, 3) := by decide +kernel
theorem dX12_awayOf_114 : decode cX12_awayOf 114 = .ok (.aload_n 0, 1) := by decide +kernel
theorem dX12_awayOf_115 : decode cX12_awayOf 115 = .ok (.iload_n 2, 1) := by decide +kernel
theorem dX12_awayOf_116 : decode cX12_awayOf 116 = .ok (.iconst 0, 1) := by decide +kernel
theorem dX12_awayOf_117 : decode cX12_awayOf 117 = .ok (.invokevirtual 424, 3) := by decide +kernel
theorem dX12_awayOf_120 : decode cX12_awayOf 120 = .ok (.istore 7, 2) := by decide +kernel
theorem dX12_awayOf_122 : decode cX12_awayOf 122 = .ok (.iload_n 2, 1) := by decide +kernel
theorem dX12_awayOf_123 : decode cX12_awayOf 123 = .ok (.aload_n 0, 1) := by decide +kernel
theorem dX12_awayOf_124 : decode cX12_awayOf 124 = .ok (.getfield 58, 3) := by decide +kernel
theorem dX12_awayOf_127 : decode cX12_awayOf 127 = .ok (.if_icmp .ne 10, 3) := by decide +kernel
theorem dX12_awayOf_130 : decode cX12_awayOf 130 = .ok (.aload_n 0, 1) := by decide +kernel
theorem dX12_awayOf_131 : decode cX12_awayOf 131 = .ok (.getfield 427, 3) := by decide +kernel
theorem dX12_awayOf_134 : decode cX12_awayOf 134 = .ok (.goto 9, 3) := by decide +kernel
theorem dX12_awayOf_137 : decode cX12_awayOf 137 = .ok (.aload_n 0, 1) := by decide +kernel
theorem dX12_awayOf_138 : decode cX12_awayOf 138 = .ok (.iload_n 2, 1) := by decide +kernel
theorem dX12_awayOf_139 : decode cX12_awayOf 139 = .ok (.iconst 1, 1) := by decide +kernel
theorem dX12_awayOf_140 : decode cX12_awayOf 140 = .ok (.invokevirtual 424, 3) := by decide +kernel
theorem dX12_awayOf_143 : decode cX12_awayOf 143 = .ok (.istore 8, 2) := by decide +kernel
theorem dX12_awayOf_145 : decode cX12_awayOf 145 = .ok (.iload 5, 2) := by decide +kernel
theorem dX12_awayOf_147 : decode cX12_awayOf 147 = .ok (.iload 7, 2) := by decide +kernel
theorem dX12_awayOf_149 : decode cX12_awayOf 149 = .ok (.isub, 1) := by decide +kernel
theorem dX12_awayOf_150 : decode cX12_awayOf 150 = .ok (.invokestatic 317, 3) := by decide +kernel
theorem dX12_awayOf_153 : decode cX12_awayOf 153 = .ok (.iload 6, 2) := by decide +kernel
theorem dX12_awayOf_155 : decode cX12_awayOf 155 = .ok (.iload 8, 2) := by decide +kernel
theorem dX12_awayOf_157 : decode cX12_awayOf 157 = .ok (.isub, 1) := by decide +kernel
theorem dX12_awayOf_158 : decode cX12_awayOf 158 = .ok (.invokestatic 317, 3) := by decide +kernel
theorem dX12_awayOf_161 : decode cX12_awayOf 161 = .ok (.iadd, 1) := by decide +kernel
theorem dX12_awayOf_162 : decode cX12_awayOf 162 = .ok (.ireturn, 1) := by decide +kernel
set_option maxRecDepth 20000 in
theorem ggX12_lightsOf_X12_reachOf : GoodIn wsX12_lightsOf wsX12_reachOf := goodIn_r _ [6, 1, 7, 8, 9, 5, 10, 11, 12, 13, 29, 30, 31, 32, 33, 34, 35, 36, 37, 38, 39, 40, 41, 42, 43, 44, 45, 46, 47, 48, 49, 50, 51, 52, 53, 54, 55, 56, 57, 58, 59, 60, 61, 62] (by decide +kernel) (by decide +kernel)
set_option maxRecDepth 20000 in
theorem gX12_lightsOf_X12_reachOf : GoodIn wsX12_lightsOf (wsV RX12 418 RX12 yX12_reachOf wsX12_reachOf) := goodIn_app (goodIn_of _ (by decide +kernel)) ggX12_lightsOf_X12_reachOf
set_option maxRecDepth 20000 in
theorem ggX12_lightsOf_X12_ofRoom : GoodIn wsX12_lightsOf wsX12_ofRoom := goodIn_r _ [17, 1, 29, 30, 31, 32, 33, 34, 35, 36, 37, 38, 39, 40, 41, 42, 43, 44, 45, 46, 47, 48, 49, 50, 51, 52, 53, 54, 55, 56, 57, 58, 59, 60, 61, 62] (by decide +kernel) (by decide +kernel)
set_option maxRecDepth 20000 in
theorem gX12_lightsOf_X12_ofRoom : GoodIn wsX12_lightsOf (wsV RX12 424 RX12 yX12_ofRoom wsX12_ofRoom) := goodIn_app (goodIn_of _ (by decide +kernel)) ggX12_lightsOf_X12_ofRoom
set_option maxRecDepth 20000 in
theorem ggX12_lightsOf_X12_awayOf : GoodIn wsX12_lightsOf wsX12_awayOf := goodIn_r _ [21, 1, 22, 23, 24, 25, 26, 27, 28, 7, 8, 9, 5, 10, 14, 15, 16, 17, 29, 30, 31, 32, 33, 34, 35, 36, 37, 38, 39, 40, 41, 42, 43, 44, 45, 46, 47, 48, 49, 50, 51, 52, 53, 54, 55, 56, 57, 58, 59, 60, 61, 62] (by decide +kernel) (by decide +kernel)
set_option maxRecDepth 20000 in
theorem gX12_lightsOf_X12_awayOf : GoodIn wsX12_lightsOf (wsV RX12 430 RX12 yX12_awayOf wsX12_awayOf) := goodIn_app (goodIn_of _ (by decide +kernel)) ggX12_lightsOf_X12_awayOf
theorem dX12_lightsOf_0 : decode cX12_lightsOf 0 = .ok (.iconst 1, 1) := by decide +kernel
theorem dX12_lightsOf_1 : decode cX12_lightsOf 1 = .ok (.istore_n 3, 1) := by decide +kernel
theorem dX12_lightsOf_2 : decode cX12_lightsOf 2 = .ok (.iload_n 3, 1) := by decide +kernel
theorem dX12_lightsOf_3 : decode cX12_lightsOf 3 = .ok (.bipush 60, 2) := by decide +kernel
theorem dX12_lightsOf_5 : decode cX12_lightsOf 5 = .ok (.if_icmp .gt 64, 3) := by decide +kernel
theorem dX12_lightsOf_8 : decode cX12_lightsOf 8 = .ok (.aload_n 0, 1) := by decide +kernel
theorem dX12_lightsOf_9 : decode cX12_lightsOf 9 = .ok (.iload_n 1, 1) := by decide +kernel
theorem dX12_lightsOf_10 : decode cX12_lightsOf 10 = .ok (.iload_n 2, 1) := by decide +kernel
theorem dX12_lightsOf_11 : decode cX12_lightsOf 11 = .ok (.iload_n 3, 1) := by decide +kernel
theorem dX12_lightsOf_12 : decode cX12_lightsOf 12 = .ok (.invokevirtual 418, 3) := by decide +kernel
theorem dX12_lightsOf_15 : decode cX12_lightsOf 15 = .ok (.istore 4, 2) := by decide +kernel
theorem dX12_lightsOf_17 : decode cX12_lightsOf 17 = .ok (.iconst 0, 1) := by decide +kernel
theorem dX12_lightsOf_18 : decode cX12_lightsOf 18 = .ok (.istore 5, 2) := by decide +kernel
theorem dX12_lightsOf_20 : decode cX12_lightsOf 20 = .ok (.iload 5, 2) := by decide +kernel
theorem dX12_lightsOf_22 : decode cX12_lightsOf 22 = .ok (.aload_n 0, 1) := by decide +kernel
theorem dX12_lightsOf_23 : decode cX12_lightsOf 23 = .ok (.getfield 13, 3) := by decide +kernel
theorem dX12_lightsOf_26 : decode cX12_lightsOf 26 = .ok (.iconst 3, 1) := by decide +kernel
theorem dX12_lightsOf_27 : decode cX12_lightsOf 27 = .ok (.iaload, 1) := by decide +kernel
theorem dX12_lightsOf_28 : decode cX12_lightsOf 28 = .ok (.if_icmp .ge 35, 3) := by decide +kernel
theorem dX12_lightsOf_31 : decode cX12_lightsOf 31 = .ok (.aload_n 0, 1) := by decide +kernel
theorem dX12_lightsOf_32 : decode cX12_lightsOf 32 = .ok (.iload 5, 2) := by decide +kernel
theorem dX12_lightsOf_34 : decode cX12_lightsOf 34 = .ok (.iconst 4, 1) := by decide +kernel
theorem dX12_lightsOf_35 : decode cX12_lightsOf 35 = .ok (.invokevirtual 424, 3) := by decide +kernel
theorem dX12_lightsOf_38 : decode cX12_lightsOf 38 = .ok (.iconst 1, 1) := by decide +kernel
theorem dX12_lightsOf_39 : decode cX12_lightsOf 39 = .ok (.if_icmp .ne 18, 3) := by decide +kernel
theorem dX12_lightsOf_42 : decode cX12_lightsOf 42 = .ok (.aload_n 0, 1) := by decide +kernel
theorem dX12_lightsOf_43 : decode cX12_lightsOf 43 = .ok (.iload_n 1, 1) := by decide +kernel
theorem dX12_lightsOf_44 : decode cX12_lightsOf 44 = .ok (.iload 5, 2) := by decide +kernel
theorem dX12_lightsOf_46 : decode cX12_lightsOf 46 = .ok (.iload_n 3, 1) := by decide +kernel
theorem dX12_lightsOf_47 : decode cX12_lightsOf 47 = .ok (.invokevirtual 430, 3) := by decide +kernel
theorem dX12_lightsOf_50 : decode cX12_lightsOf 50 = .ok (.iload 4, 2) := by decide +kernel
theorem dX12_lightsOf_52 : decode cX12_lightsOf 52 = .ok (.if_icmp .gt 5, 3) := by decide +kernel
theorem dX12_lightsOf_55 : decode cX12_lightsOf 55 = .ok (.iload_n 3, 1) := by decide +kernel
theorem dX12_lightsOf_56 : decode cX12_lightsOf 56 = .ok (.ireturn, 1) := by decide +kernel
theorem dX12_lightsOf_57 : decode cX12_lightsOf 57 = .ok (.iinc 5 1, 3) := by decide +kernel
theorem dX12_lightsOf_60 : decode cX12_lightsOf 60 = .ok (.goto (-40), 3) := by decide +kernel
theorem dX12_lightsOf_63 : decode cX12_lightsOf 63 = .ok (.iinc 3 1, 3) := by decide +kernel
theorem dX12_lightsOf_66 : decode cX12_lightsOf 66 = .ok (.goto (-64), 3) := by decide +kernel
theorem dX12_lightsOf_69 : decode cX12_lightsOf 69 = .ok (.iconst (-1), 1) := by decide +kernel
theorem dX12_lightsOf_70 : decode cX12_lightsOf 70 = .ok (.ireturn, 1) := by decide +kernel
set_option maxRecDepth 20000 in
theorem ggX12_takenOf_X12_lightsOf : GoodIn wsX12_takenOf wsX12_lightsOf := goodIn_r _ [6, 1, 7, 8, 9, 5, 10, 11, 12, 13, 14, 15, 16, 17, 18, 19, 20, 21, 22, 23, 24, 25, 26, 27, 28, 29, 30, 31, 32, 33, 34, 35, 36, 37, 38, 39, 40, 41, 42, 43, 44, 45, 46, 47, 48, 49, 50, 51, 52, 53, 54, 55, 56, 57, 58, 59, 60, 61, 62, 63, 64, 65, 66] (by decide +kernel) (by decide +kernel)
set_option maxRecDepth 20000 in
theorem gX12_takenOf_X12_lightsOf : GoodIn wsX12_takenOf (wsV RX12 433 RX12 yX12_lightsOf wsX12_lightsOf) := goodIn_app (goodIn_of _ (by decide +kernel)) ggX12_takenOf_X12_lightsOf
set_option maxRecDepth 20000 in
theorem ggX12_takenOf_X12_reachOf : GoodIn wsX12_takenOf wsX12_reachOf := goodIn_r _ [10, 1, 11, 12, 13, 5, 14, 15, 16, 17, 33, 34, 35, 36, 37, 38, 39, 40, 41, 42, 43, 44, 45, 46, 47, 48, 49, 50, 51, 52, 53, 54, 55, 56, 57, 58, 59, 60, 61, 62, 63, 64, 65, 66] (by decide +kernel) (by decide +kernel)
set_option maxRecDepth 20000 in
theorem gX12_takenOf_X12_reachOf : GoodIn wsX12_takenOf (wsV RX12 418 RX12 yX12_reachOf wsX12_reachOf) := goodIn_app (goodIn_of _ (by decide +kernel)) ggX12_takenOf_X12_reachOf
set_option maxRecDepth 20000 in
theorem ggX12_takenOf_X12_awayOf : GoodIn wsX12_takenOf wsX12_awayOf := goodIn_r _ [25, 1, 26, 27, 28, 29, 30, 31, 32, 11, 12, 13, 5, 14, 18, 19, 20, 21, 33, 34, 35, 36, 37, 38, 39, 40, 41, 42, 43, 44, 45, 46, 47, 48, 49, 50, 51, 52, 53, 54, 55, 56, 57, 58, 59, 60, 61, 62, 63, 64, 65, 66] (by decide +kernel) (by decide +kernel)
set_option maxRecDepth 20000 in
theorem gX12_takenOf_X12_awayOf : GoodIn wsX12_takenOf (wsV RX12 430 RX12 yX12_awayOf wsX12_awayOf) := goodIn_app (goodIn_of _ (by decide +kernel)) ggX12_takenOf_X12_awayOf
theorem dX12_takenOf_0 : decode cX12_takenOf 0 = .ok (.aload_n 0, 1) := by decide +kernel
theorem dX12_takenOf_1 : decode cX12_takenOf 1 = .ok (.iload_n 1, 1) := by decide +kernel
theorem dX12_takenOf_2 : decode cX12_takenOf 2 = .ok (.iload_n 2, 1) := by decide +kernel
theorem dX12_takenOf_3 : decode cX12_takenOf 3 = .ok (.invokevirtual 433, 3) := by decide +kernel
theorem dX12_takenOf_6 : decode cX12_takenOf 6 = .ok (.istore_n 3, 1) := by decide +kernel
theorem dX12_takenOf_7 : decode cX12_takenOf 7 = .ok (.iload_n 3, 1) := by decide +kernel
theorem dX12_takenOf_8 : decode cX12_takenOf 8 = .ok (.iconst (-1), 1) := by decide +kernel
theorem dX12_takenOf_9 : decode cX12_takenOf 9 = .ok (.if_icmp .ne 5, 3) := by decide +kernel
theorem dX12_takenOf_12 : decode cX12_takenOf 12 = .ok (.iconst 0, 1) := by decide +kernel
theorem dX12_takenOf_13 : decode cX12_takenOf 13 = .ok (.ireturn, 1) := by decide +kernel
theorem dX12_takenOf_14 : decode cX12_takenOf 14 = .ok (.aload_n 0, 1) := by decide +kernel
theorem dX12_takenOf_15 : decode cX12_takenOf 15 = .ok (.iload_n 1, 1) := by decide +kernel
theorem dX12_takenOf_16 : decode cX12_takenOf 16 = .ok (.iload_n 2, 1) := by decide +kernel
theorem dX12_takenOf_17 : decode cX12_takenOf 17 = .ok (.iload_n 3, 1) := by decide +kernel
theorem dX12_takenOf_18 : decode cX12_takenOf 18 = .ok (.invokevirtual 418, 3) := by decide +kernel
theorem dX12_takenOf_21 : decode cX12_takenOf 21 = .ok (.istore 4, 2) := by decide +kernel
theorem dX12_takenOf_23 : decode cX12_takenOf 23 = .ok (.iconst 0, 1) := by decide +kernel
theorem dX12_takenOf_24 : decode cX12_takenOf 24 = .ok (.istore 5, 2) := by decide +kernel
theorem dX12_takenOf_26 : decode cX12_takenOf 26 = .ok (.iconst 0, 1) := by decide +kernel
theorem dX12_takenOf_27 : decode cX12_takenOf 27 = .ok (.istore 6, 2) := by decide +kernel
theorem dX12_takenOf_29 : decode cX12_takenOf 29 = .ok (.iload 6, 2) := by decide +kernel
theorem dX12_takenOf_31 : decode cX12_takenOf 31 = .ok (.aload_n 0, 1) := by decide +kernel
theorem dX12_takenOf_32 : decode cX12_takenOf 32 = .ok (.getfield 13, 3) := by decide +kernel
theorem dX12_takenOf_35 : decode cX12_takenOf 35 = .ok (.iconst 3, 1) := by decide +kernel
theorem dX12_takenOf_36 : decode cX12_takenOf 36 = .ok (.iaload, 1) := by decide +kernel
theorem dX12_takenOf_37 : decode cX12_takenOf 37 = .ok (.if_icmp .ge 37, 3) := by decide +kernel
theorem dX12_takenOf_40 : decode cX12_takenOf 40 = .ok (.iload 5, 2) := by decide +kernel
theorem dX12_takenOf_42 : decode cX12_takenOf 42 = .ok (.aload_n 0, 1) := by decide +kernel
theorem dX12_takenOf_43 : decode cX12_takenOf 43 = .ok (.iload_n 1, 1) := by decide +kernel
theorem dX12_takenOf_44 : decode cX12_takenOf 44 = .ok (.iload 6, 2) := by decide +kernel
theorem dX12_takenOf_46 : decode cX12_takenOf 46 = .ok (.iload_n 3, 1) := by decide +kernel
theorem dX12_takenOf_47 : decode cX12_takenOf 47 = .ok (.invokevirtual 430, 3) := by decide +kernel
theorem dX12_takenOf_50 : decode cX12_takenOf 50 = .ok (.iconst 2, 1) := by decide +kernel
theorem dX12_takenOf_51 : decode cX12_takenOf 51 = .ok (.iload 4, 2) := by decide +kernel
theorem dX12_takenOf_53 : decode cX12_takenOf 53 = .ok (.imul, 1) := by decide +kernel
theorem dX12_takenOf_54 : decode cX12_takenOf 54 = .ok (.if_icmp .gt 10, 3) := by decide +kernel
theorem dX12_takenOf_57 : decode cX12_takenOf 57 = .ok (.iconst 1, 1) := by decide +kernel
theorem dX12_takenOf_58 : decode cX12_takenOf 58 = .ok (.iload 6, 2) := by decide +kernel
theorem dX12_takenOf_60 : decode cX12_takenOf 60 = .ok (.ishl, 1) := by decide +kernel
theorem dX12_takenOf_61 : decode cX12_takenOf 61 = .ok (.goto 4, 3) := by decide +kernel
theorem dX12_takenOf_64 : decode cX12_takenOf 64 = .ok (.iconst 0, 1) := by decide +kernel
theorem dX12_takenOf_65 : decode cX12_takenOf 65 = .ok (.ior, 1) := by decide +kernel
theorem dX12_takenOf_66 : decode cX12_takenOf 66 = .ok (.istore 5, 2) := by decide +kernel
theorem dX12_takenOf_68 : decode cX12_takenOf 68 = .ok (.iinc 6 1, 3) := by decide +kernel
theorem dX12_takenOf_71 : decode cX12_takenOf 71 = .ok (.goto (-42), 3) := by decide +kernel
theorem dX12_takenOf_74 : decode cX12_takenOf 74 = .ok (.iload 5, 2) := by decide +kernel
theorem dX12_takenOf_76 : decode cX12_takenOf 76 = .ok (.ireturn, 1) := by decide +kernel
set_option maxRecDepth 20000 in
theorem ggX12_livesOf_X12_takenOf : GoodIn wsX12_livesOf wsX12_takenOf := goodIn_r _ [8, 3, 9, 10, 11, 7, 12, 13, 14, 15, 16, 17, 18, 19, 20, 21, 22, 23, 24, 25, 26, 27, 28, 29, 30, 31, 32, 33, 34, 35, 36, 37, 38, 45, 46, 47, 48, 49, 50, 51, 52, 53, 54, 55, 56, 57, 58, 59, 60, 61, 62, 63, 64, 65, 66, 67, 68, 69, 70, 71, 72, 73, 74, 75, 76, 77, 78] (by decide +kernel) (by decide +kernel)
set_option maxRecDepth 20000 in
theorem gX12_livesOf_X12_takenOf : GoodIn wsX12_livesOf (wsV RX12 436 RX12 yX12_takenOf wsX12_takenOf) := goodIn_app (goodIn_of _ (by decide +kernel)) ggX12_livesOf_X12_takenOf
set_option maxRecDepth 20000 in
theorem ggX12_livesOf_X12_in : GoodIn wsX12_livesOf wsX12_in := goodIn_r _ [41] (by decide +kernel) (by decide +kernel)
set_option maxRecDepth 20000 in
theorem gX12_livesOf_X12_in : GoodIn wsX12_livesOf (va_wsS RX12 76 yX12_in wsX12_in) := goodIn_app (goodIn_of _ (by decide +kernel)) ggX12_livesOf_X12_in
set_option maxRecDepth 20000 in
theorem ggX12_livesOf_X12_holds : GoodIn wsX12_livesOf wsX12_holds := goodIn_r _ [44] (by decide +kernel) (by decide +kernel)
set_option maxRecDepth 20000 in
theorem gX12_livesOf_X12_holds : GoodIn wsX12_livesOf (va_wsS RX12 441 yX12_holds wsX12_holds) := goodIn_app (goodIn_of _ (by decide +kernel)) ggX12_livesOf_X12_holds
set_option maxRecDepth 20000 in
theorem ggX12_livesOf_X12_ofRoom : GoodIn wsX12_livesOf wsX12_ofRoom := goodIn_r _ [27, 3, 45, 46, 47, 48, 49, 50, 51, 52, 53, 54, 55, 56, 57, 58, 59, 60, 61, 62, 63, 64, 65, 66, 67, 68, 69, 70, 71, 72, 73, 74, 75, 76, 77, 78] (by decide +kernel) (by decide +kernel)
set_option maxRecDepth 20000 in
theorem gX12_livesOf_X12_ofRoom : GoodIn wsX12_livesOf (wsV RX12 424 RX12 yX12_ofRoom wsX12_ofRoom) := goodIn_app (goodIn_of _ (by decide +kernel)) ggX12_livesOf_X12_ofRoom
theorem dX12_livesOf_0 : decode cX12_livesOf 0 = .ok (.aload_n 0, 1) := by decide +kernel
theorem dX12_livesOf_1 : decode cX12_livesOf 1 = .ok (.iload_n 1, 1) := by decide +kernel
theorem dX12_livesOf_2 : decode cX12_livesOf 2 = .ok (.iload_n 2, 1) := by decide +kernel
theorem dX12_livesOf_3 : decode cX12_livesOf 3 = .ok (.invokevirtual 436, 3) := by decide +kernel
theorem dX12_livesOf_6 : decode cX12_livesOf 6 = .ok (.istore_n 3, 1) := by decide +kernel
theorem dX12_livesOf_7 : decode cX12_livesOf 7 = .ok (.iload_n 2, 1) := by decide +kernel
theorem dX12_livesOf_8 : decode cX12_livesOf 8 = .ok (.bipush 24, 2) := by decide +kernel
theorem dX12_livesOf_10 : decode cX12_livesOf 10 = .ok (.irem, 1) := by decide +kernel
theorem dX12_livesOf_11 : decode cX12_livesOf 11 = .ok (.i2l, 1) := by decide +kernel
theorem dX12_livesOf_12 : decode cX12_livesOf 12 = .ok (.ldc2_w 406, 3) := by decide +kernel
theorem dX12_livesOf_15 : decode cX12_livesOf 15 = .ok (.ldc2_w 439, 3) := by decide +kernel
theorem dX12_livesOf_18 : decode cX12_livesOf 18 = .ok (.invokestatic 76, 3) := by decide +kernel
theorem dX12_livesOf_21 : decode cX12_livesOf 21 = .ok (.ifCond .eq 18, 3) := by decide +kernel
theorem dX12_livesOf_24 : decode cX12_livesOf 24 = .ok (.iload_n 2, 1) := by decide +kernel
theorem dX12_livesOf_25 : decode cX12_livesOf 25 = .ok (.bipush 24, 2) := by decide +kernel
theorem dX12_livesOf_27 : decode cX12_livesOf 27 = .ok (.idiv, 1) := by decide +kernel
theorem dX12_livesOf_28 : decode cX12_livesOf 28 = .ok (.bipush 7, 2) := by decide +kernel
