theorem dX11_cap_35 : decode cX11_cap 35 = .ok (.isub, 1) := by decide +kernel
theorem dX11_cap_36 : decode cX11_cap 36 = .ok (.iconst 2, 1) := by decide +kernel
theorem dX11_cap_37 : decode cX11_cap 37 = .ok (.idiv, 1) := by decide +kernel
theorem dX11_cap_38 : decode cX11_cap 38 = .ok (.isub, 1) := by decide +kernel
theorem dX11_cap_39 : decode cX11_cap 39 = .ok (.istore 5, 2) := by decide +kernel
theorem dX11_cap_41 : decode cX11_cap 41 = .ok (.aload_n 0, 1) := by decide +kernel
theorem dX11_cap_42 : decode cX11_cap 42 = .ok (.getfield 39, 3) := by decide +kernel
theorem dX11_cap_45 : decode cX11_cap 45 = .ok (.aload_n 0, 1) := by decide +kernel
theorem dX11_cap_46 : decode cX11_cap 46 = .ok (.getfield 62, 3) := by decide +kernel
theorem dX11_cap_49 : decode cX11_cap 49 = .ok (.getfield 163, 3) := by decide +kernel
theorem dX11_cap_52 : decode cX11_cap 52 = .ok (.iconst 0, 1) := by decide +kernel
theorem dX11_cap_53 : decode cX11_cap 53 = .ok (.iload 5, 2) := by decide +kernel
theorem dX11_cap_55 : decode cX11_cap 55 = .ok (.invokevirtual 192, 3) := by decide +kernel
theorem dX11_cap_58 : decode cX11_cap 58 = .ok (.aload_n 0, 1) := by decide +kernel
theorem dX11_cap_59 : decode cX11_cap 59 = .ok (.getfield 32, 3) := by decide +kernel
theorem dX11_cap_62 : decode cX11_cap 62 = .ok (.aload_n 0, 1) := by decide +kernel
theorem dX11_cap_63 : decode cX11_cap 63 = .ok (.getfield 39, 3) := by decide +kernel
theorem dX11_cap_66 : decode cX11_cap 66 = .ok (.invokevirtual 176, 3) := by decide +kernel
theorem dX11_cap_69 : decode cX11_cap 69 = .ok (.iconst (-1), 1) := by decide +kernel
theorem dX11_cap_70 : decode cX11_cap 70 = .ok (.if_icmp .ne 9, 3) := by decide +kernel
theorem dX11_cap_73 : decode cX11_cap 73 = .ok (.iload 5, 2) := by decide +kernel
theorem dX11_cap_75 : decode cX11_cap 75 = .ok (.istore_n 2, 1) := by decide +kernel
theorem dX11_cap_76 : decode cX11_cap 76 = .ok (.goto 8, 3) := by decide +kernel
theorem dX11_cap_79 : decode cX11_cap 79 = .ok (.iload 5, 2) := by decide +kernel
theorem dX11_cap_81 : decode cX11_cap 81 = .ok (.iconst 1, 1) := by decide +kernel
theorem dX11_cap_82 : decode cX11_cap 82 = .ok (.isub, 1) := by decide +kernel
theorem dX11_cap_83 : decode cX11_cap 83 = .ok (.istore_n 3, 1) := by decide +kernel
theorem dX11_cap_84 : decode cX11_cap 84 = .ok (.iinc 4 1, 3) := by decide +kernel
theorem dX11_cap_87 : decode cX11_cap 87 = .ok (.goto (-67), 3) := by decide +kernel
theorem dX11_cap_90 : decode cX11_cap 90 = .ok (.iload_n 2, 1) := by decide +kernel
theorem dX11_cap_91 : decode cX11_cap 91 = .ok (.ireturn, 1) := by decide +kernel
set_option maxRecDepth 20000 in
theorem ggX11_prop_X10_pipeAt : GoodIn wsX11_prop wsX10_pipeAt := goodIn_r _ [9, 10, 11, 97, 98, 99, 100, 101, 102, 103, 104, 105, 106, 107, 108] (by decide +kernel) (by decide +kernel)
set_option maxRecDepth 20000 in
theorem gX11_prop_X10_pipeAt : GoodIn wsX11_prop (wsV RX11 110 RX10 yX10_pipeAt wsX10_pipeAt) := goodIn_app (goodIn_of _ (by decide +kernel)) ggX11_prop_X10_pipeAt
set_option maxRecDepth 20000 in
theorem ggX11_prop_X8_take : GoodIn wsX11_prop wsX8_take := goodIn_r _ [16, 17, 18, 19, 20, 21, 22, 23, 24, 25, 26, 27, 28, 29, 30, 31, 32, 33, 34, 35, 90, 91, 92, 93, 94, 95, 96, 109, 110, 111, 112, 113, 114, 115, 116, 117, 118, 119, 120, 121, 122, 123, 124, 125] (by decide +kernel) (by decide +kernel)
set_option maxRecDepth 20000 in
theorem gX11_prop_X8_take : GoodIn wsX11_prop (wsV RX11 199 RX8 yX8_take wsX8_take) := goodIn_app (goodIn_of _ (by decide +kernel)) ggX11_prop_X8_take
set_option maxRecDepth 20000 in
theorem ggX11_prop_X8_goingHour : GoodIn wsX11_prop wsX8_goingHour := goodIn_r _ [39, 40, 41, 42, 43, 15, 44, 45, 46, 47, 48, 49, 34, 50, 25, 51, 52, 53, 54, 55, 56, 57, 58, 59, 60, 23, 61, 62, 63, 64, 65, 66, 67, 68, 18, 21, 69, 70, 71, 72, 73, 74, 75, 76, 77, 78, 126, 127, 128, 129, 130, 109, 110, 111, 112, 113, 114] (by decide +kernel) (by decide +kernel)
set_option maxRecDepth 20000 in
theorem gX11_prop_X8_goingHour : GoodIn wsX11_prop (wsV RX11 176 RX8 yX8_goingHour wsX8_goingHour) := goodIn_app (goodIn_of _ (by decide +kernel)) ggX11_prop_X8_goingHour
theorem dX11_prop_0 : decode cX11_prop 0 = .ok (.aload_n 0, 1) := by decide +kernel
theorem dX11_prop_1 : decode cX11_prop 1 = .ok (.getfield 62, 3) := by decide +kernel
theorem dX11_prop_4 : decode cX11_prop 4 = .ok (.iload_n 1, 1) := by decide +kernel
theorem dX11_prop_5 : decode cX11_prop 5 = .ok (.invokevirtual 110, 3) := by decide +kernel
theorem dX11_prop_8 : decode cX11_prop 8 = .ok (.astore_n 3, 1) := by decide +kernel
theorem dX11_prop_9 : decode cX11_prop 9 = .ok (.aload_n 3, 1) := by decide +kernel
theorem dX11_prop_10 : decode cX11_prop 10 = .ok (.ifnonnull 6, 3) := by decide +kernel
theorem dX11_prop_13 : decode cX11_prop 13 = .ok (.bipush (-2), 2) := by decide +kernel
theorem dX11_prop_15 : decode cX11_prop 15 = .ok (.ireturn, 1) := by decide +kernel
theorem dX11_prop_16 : decode cX11_prop 16 = .ok (.aload_n 0, 1) := by decide +kernel
theorem dX11_prop_17 : decode cX11_prop 17 = .ok (.getfield 32, 3) := by decide +kernel
theorem dX11_prop_20 : decode cX11_prop 20 = .ok (.aload_n 3, 1) := by decide +kernel
theorem dX11_prop_21 : decode cX11_prop 21 = .ok (.aload_n 3, 1) := by decide +kernel
theorem dX11_prop_22 : decode cX11_prop 22 = .ok (.getfield 131, 3) := by decide +kernel
theorem dX11_prop_25 : decode cX11_prop 25 = .ok (.iload_n 2, 1) := by decide +kernel
theorem dX11_prop_26 : decode cX11_prop 26 = .ok (.invokevirtual 199, 3) := by decide +kernel
theorem dX11_prop_29 : decode cX11_prop 29 = .ok (.aload_n 0, 1) := by decide +kernel
theorem dX11_prop_30 : decode cX11_prop 30 = .ok (.getfield 32, 3) := by decide +kernel
theorem dX11_prop_33 : decode cX11_prop 33 = .ok (.aload_n 0, 1) := by decide +kernel
theorem dX11_prop_34 : decode cX11_prop 34 = .ok (.getfield 62, 3) := by decide +kernel
theorem dX11_prop_37 : decode cX11_prop 37 = .ok (.getfield 163, 3) := by decide +kernel
theorem dX11_prop_40 : decode cX11_prop 40 = .ok (.invokevirtual 176, 3) := by decide +kernel
theorem dX11_prop_43 : decode cX11_prop 43 = .ok (.ireturn, 1) := by decide +kernel
set_option maxRecDepth 20000 in
theorem ggX11_widen_X10_pipeAt : GoodIn wsX11_widen wsX10_pipeAt := goodIn_r _ [9, 10, 11, 97, 98, 99, 100, 101, 102, 103, 104, 105, 106, 107, 108] (by decide +kernel) (by decide +kernel)
set_option maxRecDepth 20000 in
theorem gX11_widen_X10_pipeAt : GoodIn wsX11_widen (wsV RX11 110 RX10 yX10_pipeAt wsX10_pipeAt) := goodIn_app (goodIn_of _ (by decide +kernel)) ggX11_widen_X10_pipeAt
set_option maxRecDepth 20000 in
theorem ggX11_widen_X8_take : GoodIn wsX11_widen wsX8_take := goodIn_r _ [16, 17, 18, 19, 20, 21, 22, 23, 24, 25, 26, 27, 28, 29, 30, 31, 32, 33, 34, 35, 90, 91, 92, 93, 94, 95, 96, 109, 110, 111, 112, 113, 114, 115, 116, 117, 118, 119, 120, 121, 122, 123, 124, 125] (by decide +kernel) (by decide +kernel)
set_option maxRecDepth 20000 in
theorem gX11_widen_X8_take : GoodIn wsX11_widen (wsV RX11 199 RX8 yX8_take wsX8_take) := goodIn_app (goodIn_of _ (by decide +kernel)) ggX11_widen_X8_take
set_option maxRecDepth 20000 in
theorem ggX11_widen_X8_goingHour : GoodIn wsX11_widen wsX8_goingHour := goodIn_r _ [39, 40, 41, 42, 43, 15, 44, 45, 46, 47, 48, 49, 34, 50, 25, 51, 52, 53, 54, 55, 56, 57, 58, 59, 60, 23, 61, 62, 63, 64, 65, 66, 67, 68, 18, 21, 69, 70, 71, 72, 73, 74, 75, 76, 77, 78, 126, 127, 128, 129, 130, 109, 110, 111, 112, 113, 114] (by decide +kernel) (by decide +kernel)
set_option maxRecDepth 20000 in
theorem gX11_widen_X8_goingHour : GoodIn wsX11_widen (wsV RX11 176 RX8 yX8_goingHour wsX8_goingHour) := goodIn_app (goodIn_of _ (by decide +kernel)) ggX11_widen_X8_goingHour
theorem dX11_widen_0 : decode cX11_widen 0 = .ok (.aload_n 0, 1) := by decide +kernel
theorem dX11_widen_1 : decode cX11_widen 1 = .ok (.getfield 62, 3) := by decide +kernel
theorem dX11_widen_4 : decode cX11_widen 4 = .ok (.iload_n 1, 1) := by decide +kernel
theorem dX11_widen_5 : decode cX11_widen 5 = .ok (.invokevirtual 110, 3) := by decide +kernel
theorem dX11_widen_8 : decode cX11_widen 8 = .ok (.astore_n 3, 1) := by decide +kernel
theorem dX11_widen_9 : decode cX11_widen 9 = .ok (.aload_n 3, 1) := by decide +kernel
theorem dX11_widen_10 : decode cX11_widen 10 = .ok (.ifnull 14, 3) := by decide +kernel
theorem dX11_widen_13 : decode cX11_widen 13 = .ok (.iload_n 2, 1) := by decide +kernel
theorem dX11_widen_14 : decode cX11_widen 14 = .ok (.iconst 1, 1) := by decide +kernel
theorem dX11_widen_15 : decode cX11_widen 15 = .ok (.if_icmp .lt 9, 3) := by decide +kernel
theorem dX11_widen_18 : decode cX11_widen 18 = .ok (.iload_n 2, 1) := by decide +kernel
theorem dX11_widen_19 : decode cX11_widen 19 = .ok (.bipush 40, 2) := by decide +kernel
theorem dX11_widen_21 : decode cX11_widen 21 = .ok (.if_icmp .le 6, 3) := by decide +kernel
theorem dX11_widen_24 : decode cX11_widen 24 = .ok (.bipush (-2), 2) := by decide +kernel
theorem dX11_widen_26 : decode cX11_widen 26 = .ok (.ireturn, 1) := by decide +kernel
theorem dX11_widen_27 : decode cX11_widen 27 = .ok (.aload_n 0, 1) := by decide +kernel
theorem dX11_widen_28 : decode cX11_widen 28 = .ok (.getfield 32, 3) := by decide +kernel
theorem dX11_widen_31 : decode cX11_widen 31 = .ok (.aload_n 3, 1) := by decide +kernel
theorem dX11_widen_32 : decode cX11_widen 32 = .ok (.iload_n 2, 1) := by decide +kernel
theorem dX11_widen_33 : decode cX11_widen 33 = .ok (.aload_n 3, 1) := by decide +kernel
theorem dX11_widen_34 : decode cX11_widen 34 = .ok (.getfield 203, 3) := by decide +kernel
theorem dX11_widen_37 : decode cX11_widen 37 = .ok (.invokevirtual 199, 3) := by decide +kernel
theorem dX11_widen_40 : decode cX11_widen 40 = .ok (.aload_n 0, 1) := by decide +kernel
theorem dX11_widen_41 : decode cX11_widen 41 = .ok (.getfield 32, 3) := by decide +kernel
theorem dX11_widen_44 : decode cX11_widen 44 = .ok (.aload_n 0, 1) := by decide +kernel
theorem dX11_widen_45 : decode cX11_widen 45 = .ok (.getfield 62, 3) := by decide +kernel
theorem dX11_widen_48 : decode cX11_widen 48 = .ok (.getfield 163, 3) := by decide +kernel
theorem dX11_widen_51 : decode cX11_widen 51 = .ok (.invokevirtual 176, 3) := by decide +kernel
theorem dX11_widen_54 : decode cX11_widen 54 = .ok (.ireturn, 1) := by decide +kernel
set_option maxRecDepth 20000 in
theorem ggX11_lever_X11_slotAt : GoodIn wsX11_lever wsX11_slotAt := goodIn_r _ [10, 11, 77, 78, 79, 80, 81, 82, 83, 84, 85, 86, 87] (by decide +kernel) (by decide +kernel)
set_option maxRecDepth 20000 in
theorem gX11_lever_X11_slotAt : GoodIn wsX11_lever (wsV RX11 207 RX11 yX11_slotAt wsX11_slotAt) := goodIn_app (goodIn_of _ (by decide +kernel)) ggX11_lever_X11_slotAt
set_option maxRecDepth 20000 in
theorem ggX11_lever_X10_pipeAt : GoodIn wsX11_lever wsX10_pipeAt := goodIn_r _ [16, 17, 18, 99, 100, 101, 102, 103, 104, 105, 106, 107, 108, 109, 110] (by decide +kernel) (by decide +kernel)
set_option maxRecDepth 20000 in
theorem gX11_lever_X10_pipeAt : GoodIn wsX11_lever (wsV RX11 110 RX10 yX10_pipeAt wsX10_pipeAt) := goodIn_app (goodIn_of _ (by decide +kernel)) ggX11_lever_X10_pipeAt
set_option maxRecDepth 20000 in
theorem ggX11_lever_X3_takeMoves : GoodIn wsX11_lever wsX3_takeMoves := goodIn_r _ [23, 24, 25, 26, 27, 28, 29, 30, 31, 32, 33, 34, 35, 36, 37, 38, 39, 40, 41, 22, 42, 43, 44, 45, 46, 47, 48, 49, 50, 51, 52, 53, 54, 55, 56, 57, 111, 112, 113, 114, 115, 116, 117, 118, 119, 120, 121, 88, 89, 90, 91] (by decide +kernel) (by decide +kernel)
set_option maxRecDepth 20000 in
theorem gX11_lever_X3_takeMoves : GoodIn wsX11_lever (wsV RX11 214 RX3 yX3_takeMoves wsX3_takeMoves) := goodIn_app (goodIn_of _ (by decide +kernel)) ggX11_lever_X3_takeMoves
set_option maxRecDepth 20000 in
theorem ggX11_lever_X10_comes : GoodIn wsX11_lever wsX10_comes := goodIn_r _ [61, 62, 63, 64, 65, 66, 15, 67, 68, 111, 112, 113, 114, 115, 116, 117, 118, 119, 120, 121, 99, 100, 101, 102, 103, 104, 105, 106, 107, 108, 109, 110] (by decide +kernel) (by decide +kernel)
set_option maxRecDepth 20000 in
theorem gX11_lever_X10_comes : GoodIn wsX11_lever (wsV RX11 218 RX10 yX10_comes wsX10_comes) := goodIn_app (goodIn_of _ (by decide +kernel)) ggX11_lever_X10_comes
set_option maxRecDepth 20000 in
theorem ggX11_lever_X3_leverOfAll : GoodIn wsX11_lever wsX3_leverOfAll := goodIn_r _ [72, 29, 73, 74, 75, 76, 111, 112, 113, 114, 115, 116, 117, 118, 119, 120, 121] (by decide +kernel) (by decide +kernel)
set_option maxRecDepth 20000 in
theorem gX11_lever_X3_leverOfAll : GoodIn wsX11_lever (wsV RX11 134 RX3 yX3_leverOfAll wsX3_leverOfAll) := goodIn_app (goodIn_of _ (by decide +kernel)) ggX11_lever_X3_leverOfAll
theorem dX11_lever_0 : decode cX11_lever 0 = .ok (.aload_n 0, 1) := by decide +kernel
theorem dX11_lever_1 : decode cX11_lever 1 = .ok (.iload_n 1, 1) := by decide +kernel
theorem dX11_lever_2 : decode cX11_lever 2 = .ok (.invokevirtual 207, 3) := by decide +kernel
theorem dX11_lever_5 : decode cX11_lever 5 = .ok (.astore_n 3, 1) := by decide +kernel
theorem dX11_lever_6 : decode cX11_lever 6 = .ok (.aload_n 0, 1) := by decide +kernel
theorem dX11_lever_7 : decode cX11_lever 7 = .ok (.getfield 62, 3) := by decide +kernel
theorem dX11_lever_10 : decode cX11_lever 10 = .ok (.iload_n 2, 1) := by decide +kernel
theorem dX11_lever_11 : decode cX11_lever 11 = .ok (.invokevirtual 110, 3) := by decide +kernel
theorem dX11_lever_14 : decode cX11_lever 14 = .ok (.astore 4, 2) := by decide +kernel
theorem dX11_lever_16 : decode cX11_lever 16 = .ok (.aload_n 3, 1) := by decide +kernel
theorem dX11_lever_17 : decode cX11_lever 17 = .ok (.ifnull 8, 3) := by decide +kernel
theorem dX11_lever_20 : decode cX11_lever 20 = .ok (.aload 4, 2) := by decide +kernel
theorem dX11_lever_22 : decode cX11_lever 22 = .ok (.ifnonnull 6, 3) := by decide +kernel
theorem dX11_lever_25 : decode cX11_lever 25 = .ok (.bipush (-2), 2) := by decide +kernel
theorem dX11_lever_27 : decode cX11_lever 27 = .ok (.ireturn, 1) := by decide +kernel
theorem dX11_lever_28 : decode cX11_lever 28 = .ok (.aload_n 3, 1) := by decide +kernel
theorem dX11_lever_29 : decode cX11_lever 29 = .ok (.getfield 211, 3) := by decide +kernel
theorem dX11_lever_32 : decode cX11_lever 32 = .ok (.ifCond .ne 6, 3) := by decide +kernel
theorem dX11_lever_35 : decode cX11_lever 35 = .ok (.bipush (-6), 2) := by decide +kernel
theorem dX11_lever_37 : decode cX11_lever 37 = .ok (.ireturn, 1) := by decide +kernel
theorem dX11_lever_38 : decode cX11_lever 38 = .ok (.aload_n 0, 1) := by decide +kernel
theorem dX11_lever_39 : decode cX11_lever 39 = .ok (.getfield 46, 3) := by decide +kernel
theorem dX11_lever_42 : decode cX11_lever 42 = .ok (.aload_n 3, 1) := by decide +kernel
theorem dX11_lever_43 : decode cX11_lever 43 = .ok (.invokevirtual 214, 3) := by decide +kernel
theorem dX11_lever_46 : decode cX11_lever 46 = .ok (.ifCond .ne 6, 3) := by decide +kernel
theorem dX11_lever_49 : decode cX11_lever 49 = .ok (.bipush (-2), 2) := by decide +kernel
theorem dX11_lever_51 : decode cX11_lever 51 = .ok (.ireturn, 1) := by decide +kernel
theorem dX11_lever_52 : decode cX11_lever 52 = .ok (.aload_n 0, 1) := by decide +kernel
theorem dX11_lever_53 : decode cX11_lever 53 = .ok (.getfield 62, 3) := by decide +kernel
theorem dX11_lever_56 : decode cX11_lever 56 = .ok (.aload_n 0, 1) := by decide +kernel
theorem dX11_lever_57 : decode cX11_lever 57 = .ok (.getfield 46, 3) := by decide +kernel
theorem dX11_lever_60 : decode cX11_lever 60 = .ok (.aload 4, 2) := by decide +kernel
theorem dX11_lever_62 : decode cX11_lever 62 = .ok (.getfield 114, 3) := by decide +kernel
theorem dX11_lever_65 : decode cX11_lever 65 = .ok (.aload 4, 2) := by decide +kernel
theorem dX11_lever_67 : decode cX11_lever 67 = .ok (.getfield 119, 3) := by decide +kernel
theorem dX11_lever_70 : decode cX11_lever 70 = .ok (.invokevirtual 218, 3) := by decide +kernel
theorem dX11_lever_73 : decode cX11_lever 73 = .ok (.ifCond .eq 13, 3) := by decide +kernel
theorem dX11_lever_76 : decode cX11_lever 76 = .ok (.aload_n 0, 1) := by decide +kernel
theorem dX11_lever_77 : decode cX11_lever 77 = .ok (.getfield 46, 3) := by decide +kernel
theorem dX11_lever_80 : decode cX11_lever 80 = .ok (.invokevirtual 134, 3) := by decide +kernel
theorem dX11_lever_83 : decode cX11_lever 83 = .ok (.goto 5, 3) := by decide +kernel
theorem dX11_lever_86 : decode cX11_lever 86 = .ok (.bipush (-5), 2) := by decide +kernel
theorem dX11_lever_88 : decode cX11_lever 88 = .ok (.ireturn, 1) := by decide +kernel
set_option maxRecDepth 20000 in
theorem ggX11_trial_X11_isPress : GoodIn wsX11_trial wsX11_isPress := goodIn_r _ [6] (by decide +kernel) (by decide +kernel)
set_option maxRecDepth 20000 in
theorem gX11_trial_X11_isPress : GoodIn wsX11_trial (va_wsS RX11 148 yX11_isPress wsX11_isPress) := goodIn_app (goodIn_of _ (by decide +kernel)) ggX11_trial_X11_isPress
set_option maxRecDepth 20000 in
theorem ggX11_trial_X11_shownFrom : GoodIn wsX11_trial wsX11_shownFrom := goodIn_r _ [10, 11, 1, 12, 13, 14, 15, 5, 16, 17, 18, 19, 20, 21, 22, 23, 24, 25, 26, 27, 28, 29, 30, 31, 32, 33, 34, 35, 36, 37, 38, 39, 40, 41, 42, 43, 44, 45, 46, 47, 48, 49, 50, 51, 52, 53, 54, 55, 56, 57, 58, 59, 60, 61, 62, 63, 64, 65, 66, 67, 68, 69, 70, 71, 72, 73, 74, 75, 76, 77, 78, 79, 80, 81, 82, 83, 84, 85, 86, 87, 88, 89, 90, 91, 92, 93, 94, 95, 96, 97, 98, 99, 100, 101, 102, 103, 104, 105, 106, 107, 108, 109, 110, 111, 112, 113, 114, 115, 116, 117, 118, 119, 120, 121, 122, 123, 124, 125, 126, 127, 128, 129, 130, 131, 132, 133, 134, 135, 136, 137, 138, 139, 140, 141, 142, 143, 144, 145, 146, 147, 148] (by decide +kernel) (by decide +kernel)
set_option maxRecDepth 20000 in
theorem gX11_trial_X11_shownFrom : GoodIn wsX11_trial (wsV RX11 225 RX11 yX11_shownFrom wsX11_shownFrom) := goodIn_app (goodIn_of _ (by decide +kernel)) ggX11_trial_X11_shownFrom
theorem dX11_trial_0 : decode cX11_trial 0 = .ok (.iload_n 1, 1) := by decide +kernel
theorem dX11_trial_1 : decode cX11_trial 1 = .ok (.invokestatic 148, 3) := by decide +kernel
theorem dX11_trial_4 : decode cX11_trial 4 = .ok (.ifCond .ne 6, 3) := by decide +kernel
theorem dX11_trial_7 : decode cX11_trial 7 = .ok (.bipush (-2), 2) := by decide +kernel
theorem dX11_trial_9 : decode cX11_trial 9 = .ok (.ireturn, 1) := by decide +kernel
theorem dX11_trial_10 : decode cX11_trial 10 = .ok (.iconst 0, 1) := by decide +kernel
theorem dX11_trial_11 : decode cX11_trial 11 = .ok (.istore_n 2, 1) := by decide +kernel
theorem dX11_trial_12 : decode cX11_trial 12 = .ok (.iconst 0, 1) := by decide +kernel
theorem dX11_trial_13 : decode cX11_trial 13 = .ok (.istore_n 3, 1) := by decide +kernel
theorem dX11_trial_14 : decode cX11_trial 14 = .ok (.iload_n 3, 1) := by decide +kernel
theorem dX11_trial_15 : decode cX11_trial 15 = .ok (.aload_n 0, 1) := by decide +kernel
theorem dX11_trial_16 : decode cX11_trial 16 = .ok (.getfield 62, 3) := by decide +kernel
theorem dX11_trial_19 : decode cX11_trial 19 = .ok (.getfield 222, 3) := by decide +kernel
theorem dX11_trial_22 : decode cX11_trial 22 = .ok (.if_icmp .ge 31, 3) := by decide +kernel
theorem dX11_trial_25 : decode cX11_trial 25 = .ok (.aload_n 0, 1) := by decide +kernel
theorem dX11_trial_26 : decode cX11_trial 26 = .ok (.iload_n 3, 1) := by decide +kernel
theorem dX11_trial_27 : decode cX11_trial 27 = .ok (.invokevirtual 225, 3) := by decide +kernel
theorem dX11_trial_30 : decode cX11_trial 30 = .ok (.istore 4, 2) := by decide +kernel
theorem dX11_trial_32 : decode cX11_trial 32 = .ok (.iload 4, 2) := by decide +kernel
theorem dX11_trial_34 : decode cX11_trial 34 = .ok (.iconst (-1), 1) := by decide +kernel
theorem dX11_trial_35 : decode cX11_trial 35 = .ok (.if_icmp .eq 12, 3) := by decide +kernel
theorem dX11_trial_38 : decode cX11_trial 38 = .ok (.iload 4, 2) := by decide +kernel
theorem dX11_trial_40 : decode cX11_trial 40 = .ok (.iload_n 1, 1) := by decide +kernel
theorem dX11_trial_41 : decode cX11_trial 41 = .ok (.if_icmp .gt 6, 3) := by decide +kernel
theorem dX11_trial_44 : decode cX11_trial 44 = .ok (.iinc 2 1, 3) := by decide +kernel
theorem dX11_trial_47 : decode cX11_trial 47 = .ok (.iinc 3 1, 3) := by decide +kernel
theorem dX11_trial_50 : decode cX11_trial 50 = .ok (.goto (-36), 3) := by decide +kernel
theorem dX11_trial_53 : decode cX11_trial 53 = .ok (.iload_n 2, 1) := by decide +kernel
theorem dX11_trial_54 : decode cX11_trial 54 = .ok (.ireturn, 1) := by decide +kernel
set_option maxRecDepth 20000 in
theorem ggX11_show_X11_shownFrom : GoodIn wsX11_show wsX11_shownFrom := goodIn_r _ [11, 12, 1, 13, 14, 15, 16, 10, 17, 18, 19, 20, 21, 22, 23, 24, 25, 26, 27, 28, 29, 30, 31, 32, 33, 34, 35, 36, 37, 38, 39, 40, 41, 42, 43, 44, 45, 46, 47, 48, 5, 49, 50, 51, 52, 53, 54, 55, 56, 57, 58, 59, 60, 61, 62, 63, 64, 65, 66, 67, 68, 69, 70, 71, 72, 73, 74, 75, 76, 77, 78, 79, 80, 81, 82, 83, 84, 85, 86, 87, 88, 89, 90, 91, 92, 93, 94, 95, 96, 97, 98, 99, 100, 101, 102, 103, 104, 105, 106, 107, 108, 109, 110, 111, 112, 113, 114, 115, 116, 117, 118, 119, 120, 121, 122, 123, 124, 125, 126, 127, 128, 129, 130, 131, 132, 133, 134, 135, 136, 137, 138, 139, 140, 141, 142, 143, 144, 145, 146, 147, 148] (by decide +kernel) (by decide +kernel)
set_option maxRecDepth 20000 in
theorem gX11_show_X11_shownFrom : GoodIn wsX11_show (wsV RX11 225 RX11 yX11_shownFrom wsX11_shownFrom) := goodIn_app (goodIn_of _ (by decide +kernel)) ggX11_show_X11_shownFrom
theorem dX11_show_0 : decode cX11_show 0 = .ok (.iconst 0, 1) := by decide +kernel
theorem dX11_show_1 : decode cX11_show 1 = .ok (.istore_n 1, 1) := by decide +kernel
theorem dX11_show_2 : decode cX11_show 2 = .ok (.iconst 0, 1) := by decide +kernel
theorem dX11_show_3 : decode cX11_show 3 = .ok (.istore_n 2, 1) := by decide +kernel
theorem dX11_show_4 : decode cX11_show 4 = .ok (.iload_n 2, 1) := by decide +kernel
theorem dX11_show_5 : decode cX11_show 5 = .ok (.aload_n 0, 1) := by decide +kernel
theorem dX11_show_6 : decode cX11_show 6 = .ok (.getfield 62, 3) := by decide +kernel
theorem dX11_show_9 : decode cX11_show 9 = .ok (.getfield 222, 3) := by decide +kernel
theorem dX11_show_12 : decode cX11_show 12 = .ok (.if_icmp .ge 19, 3) := by decide +kernel
theorem dX11_show_15 : decode cX11_show 15 = .ok (.iload_n 1, 1) := by decide +kernel
theorem dX11_show_16 : decode cX11_show 16 = .ok (.aload_n 0, 1) := by decide +kernel
theorem dX11_show_17 : decode cX11_show 17 = .ok (.iload_n 2, 1) := by decide +kernel
theorem dX11_show_18 : decode cX11_show 18 = .ok (.invokevirtual 225, 3) := by decide +kernel
theorem dX11_show_21 : decode cX11_show 21 = .ok (.invokestatic 228, 3) := by decide +kernel
theorem dX11_show_24 : decode cX11_show 24 = .ok (.istore_n 1, 1) := by decide +kernel
theorem dX11_show_25 : decode cX11_show 25 = .ok (.iinc 2 1, 3) := by decide +kernel
theorem dX11_show_28 : decode cX11_show 28 = .ok (.goto (-24), 3) := by decide +kernel
theorem dX11_show_31 : decode cX11_show 31 = .ok (.iload_n 1, 1) := by decide +kernel
theorem dX11_show_32 : decode cX11_show 32 = .ok (.ireturn, 1) := by decide +kernel
set_option maxRecDepth 20000 in
theorem ggX11_reach_X11_isClouded : GoodIn wsX11_reach wsX11_isClouded := goodIn_r _ [6, 7, 8, 1, 9, 10, 11, 12, 13, 14, 15, 16, 17, 18, 19, 20, 21, 22, 23, 24, 25, 26, 27, 28, 29, 30, 31, 32, 33, 34, 35, 36, 37, 38, 39, 40, 41, 42, 43, 44, 45, 46, 47, 48, 49, 50, 51, 52, 53, 54, 55, 56, 57, 58, 59, 60, 61, 66, 67, 68, 69, 70, 71, 72, 73, 74, 75, 76, 77, 78, 79, 80, 81, 82, 83, 84, 85, 86, 87, 88, 89, 90, 91, 92, 93, 94, 95, 96, 97, 98, 99, 100, 101, 102, 103, 104, 105, 106, 107, 108] (by decide +kernel) (by decide +kernel)
set_option maxRecDepth 20000 in
theorem gX11_reach_X11_isClouded : GoodIn wsX11_reach (wsV RX11 233 RX11 yX11_isClouded wsX11_isClouded) := goodIn_app (goodIn_of _ (by decide +kernel)) ggX11_reach_X11_isClouded
set_option maxRecDepth 20000 in
theorem ggX11_reach_X0_reachAfter : GoodIn wsX11_reach wsX0_reachAfter := goodIn_r _ [65, 57, 101, 102, 103, 104, 105, 106, 107, 108] (by decide +kernel) (by decide +kernel)
set_option maxRecDepth 20000 in
theorem gX11_reach_X0_reachAfter : GoodIn wsX11_reach (wsV RX11 237 RX0 yX0_reachAfter wsX0_reachAfter) := goodIn_app (goodIn_of _ (by decide +kernel)) ggX11_reach_X0_reachAfter
theorem dX11_reach_0 : decode cX11_reach 0 = .ok (.iload_n 3, 1) := by decide +kernel
theorem dX11_reach_1 : decode cX11_reach 1 = .ok (.iconst 1, 1) := by decide +kernel
theorem dX11_reach_2 : decode cX11_reach 2 = .ok (.if_icmp .lt 18, 3) := by decide +kernel
theorem dX11_reach_5 : decode cX11_reach 5 = .ok (.iload_n 3, 1) := by decide +kernel
theorem dX11_reach_6 : decode cX11_reach 6 = .ok (.bipush 60, 2) := by decide +kernel
theorem dX11_reach_8 : decode cX11_reach 8 = .ok (.if_icmp .gt 12, 3) := by decide +kernel
theorem dX11_reach_11 : decode cX11_reach 11 = .ok (.aload_n 0, 1) := by decide +kernel
theorem dX11_reach_12 : decode cX11_reach 12 = .ok (.iload_n 1, 1) := by decide +kernel
theorem dX11_reach_13 : decode cX11_reach 13 = .ok (.iload_n 2, 1) := by decide +kernel
theorem dX11_reach_14 : decode cX11_reach 14 = .ok (.invokevirtual 233, 3) := by decide +kernel
theorem dX11_reach_17 : decode cX11_reach 17 = .ok (.ifCond .ne 6, 3) := by decide +kernel
theorem dX11_reach_20 : decode cX11_reach 20 = .ok (.bipush (-2), 2) := by decide +kernel
theorem dX11_reach_22 : decode cX11_reach 22 = .ok (.ireturn, 1) := by decide +kernel
theorem dX11_reach_23 : decode cX11_reach 23 = .ok (.aload_n 0, 1) := by decide +kernel
theorem dX11_reach_24 : decode cX11_reach 24 = .ok (.getfield 53, 3) := by decide +kernel
theorem dX11_reach_27 : decode cX11_reach 27 = .ok (.iload_n 3, 1) := by decide +kernel
theorem dX11_reach_28 : decode cX11_reach 28 = .ok (.invokevirtual 237, 3) := by decide +kernel
theorem dX11_reach_31 : decode cX11_reach 31 = .ok (.ireturn, 1) := by decide +kernel
set_option maxRecDepth 20000 in
theorem ggX11_lights_X11_isClouded : GoodIn wsX11_lights wsX11_isClouded := goodIn_r _ [6, 7, 8, 1, 9, 10, 11, 12, 13, 14, 15, 16, 17, 18, 19, 20, 21, 22, 23, 24, 25, 26, 27, 28, 29, 30, 31, 32, 33, 34, 35, 36, 37, 38, 39, 40, 41, 42, 43, 44, 45, 46, 47, 48, 49, 50, 51, 52, 53, 54, 55, 56, 57, 58, 59, 60, 61, 93, 94, 95, 96, 97, 98, 99, 100, 101, 102, 103, 104, 105, 106, 107, 108, 109, 110, 111, 112, 113, 114, 115, 116, 117, 118, 119, 120, 121, 122, 123, 124, 125, 126, 127, 128, 129, 130, 131, 132, 133, 134, 135] (by decide +kernel) (by decide +kernel)
set_option maxRecDepth 20000 in
theorem gX11_lights_X11_isClouded : GoodIn wsX11_lights (wsV RX11 233 RX11 yX11_isClouded wsX11_isClouded) := goodIn_app (goodIn_of _ (by decide +kernel)) ggX11_lights_X11_isClouded
set_option maxRecDepth 20000 in
theorem ggX11_lights_X0_lightingMinute : GoodIn wsX11_lights wsX0_lightingMinute := goodIn_r _ [65, 55, 66, 67, 68, 69, 45, 70, 57, 71, 72, 73, 74, 75, 56, 76, 77, 49, 51, 78, 79, 80, 81, 53, 82, 83, 84, 85, 86, 87, 88, 89, 90, 91, 92, 128, 129, 130, 131, 132, 133, 134, 135, 136, 137, 138, 139, 140, 141] (by decide +kernel) (by decide +kernel)
set_option maxRecDepth 20000 in
theorem gX11_lights_X0_lightingMinute : GoodIn wsX11_lights (wsV RX11 240 RX0 yX0_lightingMinute wsX0_lightingMinute) := goodIn_app (goodIn_of _ (by decide +kernel)) ggX11_lights_X0_lightingMinute
theorem dX11_lights_0 : decode cX11_lights 0 = .ok (.aload_n 0, 1) := by decide +kernel
theorem dX11_lights_1 : decode cX11_lights 1 = .ok (.iload_n 1, 1) := by decide +kernel
theorem dX11_lights_2 : decode cX11_lights 2 = .ok (.iload_n 2, 1) := by decide +kernel
theorem dX11_lights_3 : decode cX11_lights 3 = .ok (.invokevirtual 233, 3) := by decide +kernel
theorem dX11_lights_6 : decode cX11_lights 6 = .ok (.ifCond .eq 13, 3) := by decide +kernel
theorem dX11_lights_9 : decode cX11_lights 9 = .ok (.aload_n 0, 1) := by decide +kernel
theorem dX11_lights_10 : decode cX11_lights 10 = .ok (.getfield 53, 3) := by decide +kernel
theorem dX11_lights_13 : decode cX11_lights 13 = .ok (.invokevirtual 240, 3) := by decide +kernel
theorem dX11_lights_16 : decode cX11_lights 16 = .ok (.goto 5, 3) := by decide +kernel
theorem dX11_lights_19 : decode cX11_lights 19 = .ok (.bipush (-2), 2) := by decide +kernel
theorem dX11_lights_21 : decode cX11_lights 21 = .ok (.ireturn, 1) := by decide +kernel
set_option maxRecDepth 20000 in
theorem ggX11_taken_X11_isClouded : GoodIn wsX11_taken wsX11_isClouded := goodIn_r _ [6, 7, 8, 1, 9, 10, 11, 12, 13, 14, 15, 16, 17, 18, 19, 20, 21, 22, 23, 24, 25, 26, 27, 28, 29, 30, 31, 32, 33, 34, 35, 36, 37, 38, 39, 40, 41, 42, 43, 44, 45, 46, 47, 48, 49, 50, 51, 52, 53, 54, 55, 56, 57, 58, 59, 60, 61, 97, 98, 99, 100, 101, 102, 103, 104, 105, 106, 107, 108, 109, 110, 111, 112, 113, 114, 115, 116, 117, 118, 119, 120, 121, 122, 123, 124, 125, 126, 127, 128, 129, 130, 131, 132, 133, 134, 135, 136, 137, 138, 139] (by decide +kernel) (by decide +kernel)
set_option maxRecDepth 20000 in
theorem gX11_taken_X11_isClouded : GoodIn wsX11_taken (wsV RX11 233 RX11 yX11_isClouded wsX11_isClouded) := goodIn_app (goodIn_of _ (by decide +kernel)) ggX11_taken_X11_isClouded
set_option maxRecDepth 20000 in
theorem ggX11_taken_X0_takenRooms : GoodIn wsX11_taken wsX0_takenRooms := goodIn_r _ [65, 66, 67, 68, 45, 69, 55, 70, 71, 72, 73, 74, 57, 75, 76, 77, 78, 79, 56, 80, 81, 49, 51, 82, 83, 84, 85, 53, 86, 87, 88, 89, 90, 91, 92, 93, 94, 95, 96, 132, 133, 134, 135, 136, 137, 138, 139, 140, 141, 142, 143, 144, 145] (by decide +kernel) (by decide +kernel)
set_option maxRecDepth 20000 in
theorem gX11_taken_X0_takenRooms : GoodIn wsX11_taken (wsV RX11 243 RX0 yX0_takenRooms wsX0_takenRooms) := goodIn_app (goodIn_of _ (by decide +kernel)) ggX11_taken_X0_takenRooms
theorem dX11_taken_0 : decode cX11_taken 0 = .ok (.aload_n 0, 1) := by decide +kernel
theorem dX11_taken_1 : decode cX11_taken 1 = .ok (.iload_n 1, 1) := by decide +kernel
theorem dX11_taken_2 : decode cX11_taken 2 = .ok (.iload_n 2, 1) := by decide +kernel
theorem dX11_taken_3 : decode cX11_taken 3 = .ok (.invokevirtual 233, 3) := by decide +kernel
theorem dX11_taken_6 : decode cX11_taken 6 = .ok (.ifCond .eq 13, 3) := by decide +kernel
theorem dX11_taken_9 : decode cX11_taken 9 = .ok (.aload_n 0, 1) := by decide +kernel
theorem dX11_taken_10 : decode cX11_taken 10 = .ok (.getfield 53, 3) := by decide +kernel
theorem dX11_taken_13 : decode cX11_taken 13 = .ok (.invokevirtual 243, 3) := by decide +kernel
theorem dX11_taken_16 : decode cX11_taken 16 = .ok (.goto 5, 3) := by decide +kernel
theorem dX11_taken_19 : decode cX11_taken 19 = .ok (.bipush (-2), 2) := by decide +kernel
theorem dX11_taken_21 : decode cX11_taken 21 = .ok (.ireturn, 1) := by decide +kernel
set_option maxRecDepth 20000 in
theorem ggX11_lives_X11_isClouded : GoodIn wsX11_lives wsX11_isClouded := goodIn_r _ [8, 1, 9, 3, 10, 11, 12, 13, 14, 15, 16, 17, 18, 19, 20, 21, 22, 23, 24, 25, 26, 27, 28, 29, 30, 31, 32, 33, 34, 35, 36, 37, 38, 39, 40, 41, 42, 43, 44, 45, 46, 47, 48, 49, 50, 51, 52, 53, 54, 55, 56, 57, 58, 59, 60, 61, 62, 105, 106, 107, 108, 109, 110, 111, 112, 113, 114, 115, 116, 117, 118, 119, 120, 121, 122, 123, 124, 125, 126, 127, 128, 129, 130, 131, 132, 133, 134, 135, 136, 137, 138, 139, 140, 141, 142, 143, 144, 145, 146, 147] (by decide +kernel) (by decide +kernel)
set_option maxRecDepth 20000 in
theorem gX11_lives_X11_isClouded : GoodIn wsX11_lives (wsV RX11 233 RX11 yX11_isClouded wsX11_isClouded) := goodIn_app (goodIn_of _ (by decide +kernel)) ggX11_lives_X11_isClouded
set_option maxRecDepth 20000 in
theorem ggX11_lives_X0_takenRooms : GoodIn wsX11_lives wsX0_takenRooms := goodIn_r _ [66, 67, 68, 69, 46, 70, 56, 71, 72, 73, 74, 75, 58, 76, 77, 78, 79, 80, 57, 81, 82, 50, 52, 83, 84, 85, 86, 54, 87, 88, 89, 90, 91, 92, 93, 94, 95, 96, 97, 140, 141, 142, 143, 144, 145, 146, 147, 148, 149, 150, 151, 152, 153] (by decide +kernel) (by decide +kernel)
set_option maxRecDepth 20000 in
theorem gX11_lives_X0_takenRooms : GoodIn wsX11_lives (wsV RX11 243 RX0 yX0_takenRooms wsX0_takenRooms) := goodIn_app (goodIn_of _ (by decide +kernel)) ggX11_lives_X0_takenRooms
set_option maxRecDepth 20000 in
theorem ggX11_lives_X6_peopleIn : GoodIn wsX11_lives wsX6_peopleIn := goodIn_r _ [101, 102, 103, 104, 148, 149, 150, 151, 152, 153] (by decide +kernel) (by decide +kernel)
set_option maxRecDepth 20000 in
theorem gX11_lives_X6_peopleIn : GoodIn wsX11_lives (wsV RX11 250 RX6 yX6_peopleIn wsX6_peopleIn) := goodIn_app (goodIn_of _ (by decide +kernel)) ggX11_lives_X6_peopleIn
theorem dX11_lives_0 : decode cX11_lives 0 = .ok (.aload_n 0, 1) := by decide +kernel
theorem dX11_lives_1 : decode cX11_lives 1 = .ok (.iload_n 1, 1) := by decide +kernel
theorem dX11_lives_2 : decode cX11_lives 2 = .ok (.iload_n 2, 1) := by decide +kernel
theorem dX11_lives_3 : decode cX11_lives 3 = .ok (.invokevirtual 233, 3) := by decide +kernel
theorem dX11_lives_6 : decode cX11_lives 6 = .ok (.ifCond .eq 24, 3) := by decide +kernel
theorem dX11_lives_9 : decode cX11_lives 9 = .ok (.aload_n 0, 1) := by decide +kernel
theorem dX11_lives_10 : decode cX11_lives 10 = .ok (.getfield 62, 3) := by decide +kernel
theorem dX11_lives_13 : decode cX11_lives 13 = .ok (.getfield 246, 3) := by decide +kernel
theorem dX11_lives_16 : decode cX11_lives 16 = .ok (.aload_n 0, 1) := by decide +kernel
theorem dX11_lives_17 : decode cX11_lives 17 = .ok (.getfield 53, 3) := by decide +kernel
theorem dX11_lives_20 : decode cX11_lives 20 = .ok (.invokevirtual 243, 3) := by decide +kernel
theorem dX11_lives_23 : decode cX11_lives 23 = .ok (.iload_n 2, 1) := by decide +kernel
theorem dX11_lives_24 : decode cX11_lives 24 = .ok (.invokevirtual 250, 3) := by decide +kernel
theorem dX11_lives_27 : decode cX11_lives 27 = .ok (.goto 5, 3) := by decide +kernel
theorem dX11_lives_30 : decode cX11_lives 30 = .ok (.bipush (-2), 2) := by decide +kernel
theorem dX11_lives_32 : decode cX11_lives 32 = .ok (.ireturn, 1) := by decide +kernel
set_option maxRecDepth 20000 in
theorem ggX11_when_X10_pipeAt : GoodIn wsX11_when wsX10_pipeAt := goodIn_r _ [13, 14, 15, 126, 127, 128, 129, 130, 131, 132, 133, 134, 135, 136, 137] (by decide +kernel) (by decide +kernel)
set_option maxRecDepth 20000 in
theorem gX11_when_X10_pipeAt : GoodIn wsX11_when (wsV RX11 110 RX10 yX10_pipeAt wsX10_pipeAt) := goodIn_app (goodIn_of _ (by decide +kernel)) ggX11_when_X10_pipeAt
set_option maxRecDepth 20000 in
theorem ggX11_when_X1_has : GoodIn wsX11_when wsX1_has := goodIn_r _ [20, 21, 138, 139, 140, 141, 142] (by decide +kernel) (by decide +kernel)
set_option maxRecDepth 20000 in
theorem gX11_when_X1_has : GoodIn wsX11_when (wsV RX11 166 RX1 yX1_has wsX1_has) := goodIn_app (goodIn_of _ (by decide +kernel)) ggX11_when_X1_has
set_option maxRecDepth 20000 in
theorem ggX11_when_X11_forgetTaken : GoodIn wsX11_when wsX11_forgetTaken := goodIn_r _ [26, 27, 115, 116, 117, 118, 119, 120, 121, 122, 123, 124, 125] (by decide +kernel) (by decide +kernel)
set_option maxRecDepth 20000 in
theorem gX11_when_X11_forgetTaken : GoodIn wsX11_when (wsV RX11 255 RX11 yX11_forgetTaken wsX11_forgetTaken) := goodIn_app (goodIn_of _ (by decide +kernel)) ggX11_when_X11_forgetTaken
set_option maxRecDepth 20000 in
theorem ggX11_when_X11_peopleTaken : GoodIn wsX11_when wsX11_peopleTaken := goodIn_r _ [31, 1, 2, 27, 32, 33, 34, 35, 36, 19, 37, 38, 39, 40, 41, 42, 43, 44, 45, 46, 47, 48, 49, 50, 51, 52, 53, 54, 55, 56, 57, 58, 59, 60, 61, 62, 63, 64, 65, 66, 67, 68, 69, 70, 71, 72, 73, 74, 75, 76, 77, 78, 79, 80, 81, 82, 83, 84, 85, 86, 87, 88, 89, 90, 91, 92, 93, 94, 95, 7, 96, 97, 98, 99, 100, 101, 102, 103, 104, 105, 106, 107, 108, 109, 110, 111, 112, 113, 114, 115, 116, 117, 118, 119, 120, 121, 122, 123, 124, 125, 126, 127, 128, 129, 130, 131, 132, 133, 134, 135, 136, 137, 138, 139, 140, 141, 142, 143, 144, 145, 146, 147, 148, 149, 150, 151, 152, 153, 154, 155, 156, 157, 158, 159, 160, 161, 162, 163] (by decide +kernel) (by decide +kernel)
set_option maxRecDepth 20000 in
theorem gX11_when_X11_peopleTaken : GoodIn wsX11_when (wsV RX11 265 RX11 yX11_peopleTaken wsX11_peopleTaken) := goodIn_app (goodIn_of _ (by decide +kernel)) ggX11_when_X11_peopleTaken
theorem dX11_when_0 : decode cX11_when 0 = .ok (.aload_n 0, 1) := by decide +kernel
theorem dX11_when_1 : decode cX11_when 1 = .ok (.getfield 62, 3) := by decide +kernel
theorem dX11_when_4 : decode cX11_when 4 = .ok (.iload_n 1, 1) := by decide +kernel
theorem dX11_when_5 : decode cX11_when 5 = .ok (.invokevirtual 110, 3) := by decide +kernel
theorem dX11_when_8 : decode cX11_when 8 = .ok (.astore 4, 2) := by decide +kernel
theorem dX11_when_10 : decode cX11_when 10 = .ok (.aload 4, 2) := by decide +kernel
theorem dX11_when_12 : decode cX11_when 12 = .ok (.ifnull 29, 3) := by decide +kernel
theorem dX11_when_15 : decode cX11_when 15 = .ok (.aload_n 0, 1) := by decide +kernel
theorem dX11_when_16 : decode cX11_when 16 = .ok (.getfield 62, 3) := by decide +kernel
theorem dX11_when_19 : decode cX11_when 19 = .ok (.getfield 163, 3) := by decide +kernel
theorem dX11_when_22 : decode cX11_when 22 = .ok (.iload_n 2, 1) := by decide +kernel
theorem dX11_when_23 : decode cX11_when 23 = .ok (.invokevirtual 166, 3) := by decide +kernel
theorem dX11_when_26 : decode cX11_when 26 = .ok (.ifCond .eq 15, 3) := by decide +kernel
theorem dX11_when_29 : decode cX11_when 29 = .ok (.iload_n 3, 1) := by decide +kernel
theorem dX11_when_30 : decode cX11_when 30 = .ok (.iconst 1, 1) := by decide +kernel
theorem dX11_when_31 : decode cX11_when 31 = .ok (.if_icmp .lt 10, 3) := by decide +kernel
theorem dX11_when_34 : decode cX11_when 34 = .ok (.iload_n 3, 1) := by decide +kernel
theorem dX11_when_35 : decode cX11_when 35 = .ok (.sipush 200, 3) := by decide +kernel
theorem dX11_when_38 : decode cX11_when 38 = .ok (.if_icmp .le 6, 3) := by decide +kernel
theorem dX11_when_41 : decode cX11_when 41 = .ok (.bipush (-2), 2) := by decide +kernel
theorem dX11_when_43 : decode cX11_when 43 = .ok (.ireturn, 1) := by decide +kernel
theorem dX11_when_44 : decode cX11_when 44 = .ok (.aload_n 0, 1) := by decide +kernel
theorem dX11_when_45 : decode cX11_when 45 = .ok (.invokevirtual 255, 3) := by decide +kernel
theorem dX11_when_48 : decode cX11_when 48 = .ok (.iload_n 2, 1) := by decide +kernel
theorem dX11_when_49 : decode cX11_when 49 = .ok (.istore 5, 2) := by decide +kernel
theorem dX11_when_51 : decode cX11_when 51 = .ok (.ldc_w 258, 3) := by decide +kernel
theorem dX11_when_54 : decode cX11_when 54 = .ok (.istore 6, 2) := by decide +kernel
theorem dX11_when_56 : decode cX11_when 56 = .ok (.aload_n 0, 1) := by decide +kernel
theorem dX11_when_57 : decode cX11_when 57 = .ok (.getfield 62, 3) := by decide +kernel
theorem dX11_when_60 : decode cX11_when 60 = .ok (.getfield 163, 3) := by decide +kernel
theorem dX11_when_63 : decode cX11_when 63 = .ok (.getfield 259, 3) := by decide +kernel
theorem dX11_when_66 : decode cX11_when 66 = .ok (.iload_n 2, 1) := by decide +kernel
theorem dX11_when_67 : decode cX11_when 67 = .ok (.iload_n 3, 1) := by decide +kernel
theorem dX11_when_68 : decode cX11_when 68 = .ok (.iadd, 1) := by decide +kernel
theorem dX11_when_69 : decode cX11_when 69 = .ok (.invokestatic 262, 3) := by decide +kernel
theorem dX11_when_72 : decode cX11_when 72 = .ok (.istore 7, 2) := by decide +kernel
theorem dX11_when_74 : decode cX11_when 74 = .ok (.iload_n 2, 1) := by decide +kernel
theorem dX11_when_75 : decode cX11_when 75 = .ok (.istore 8, 2) := by decide +kernel
theorem dX11_when_77 : decode cX11_when 77 = .ok (.iload 8, 2) := by decide +kernel
theorem dX11_when_79 : decode cX11_when 79 = .ok (.iload 7, 2) := by decide +kernel
theorem dX11_when_81 : decode cX11_when 81 = .ok (.if_icmp .ge 34, 3) := by decide +kernel
theorem dX11_when_84 : decode cX11_when 84 = .ok (.aload_n 0, 1) := by decide +kernel
theorem dX11_when_85 : decode cX11_when 85 = .ok (.aload 4, 2) := by decide +kernel
theorem dX11_when_87 : decode cX11_when 87 = .ok (.iload 8, 2) := by decide +kernel
theorem dX11_when_89 : decode cX11_when 89 = .ok (.invokevirtual 265, 3) := by decide +kernel
theorem dX11_when_92 : decode cX11_when 92 = .ok (.istore 9, 2) := by decide +kernel
theorem dX11_when_94 : decode cX11_when 94 = .ok (.iload 9, 2) := by decide +kernel
theorem dX11_when_96 : decode cX11_when 96 = .ok (.iload 6, 2) := by decide +kernel
theorem dX11_when_98 : decode cX11_when 98 = .ok (.if_icmp .ge 11, 3) := by decide +kernel
theorem dX11_when_101 : decode cX11_when 101 = .ok (.iload 9, 2) := by decide +kernel
theorem dX11_when_103 : decode cX11_when 103 = .ok (.istore 6, 2) := by decide +kernel
theorem dX11_when_105 : decode cX11_when 105 = .ok (.iload 8, 2) := by decide +kernel
theorem dX11_when_107 : decode cX11_when 107 = .ok (.istore 5, 2) := by decide +kernel
theorem dX11_when_109 : decode cX11_when 109 = .ok (.iinc 8 1, 3) := by decide +kernel
theorem dX11_when_112 : decode cX11_when 112 = .ok (.goto (-35), 3) := by decide +kernel
theorem dX11_when_115 : decode cX11_when 115 = .ok (.iload 5, 2) := by decide +kernel
theorem dX11_when_117 : decode cX11_when 117 = .ok (.ireturn, 1) := by decide +kernel
set_option maxRecDepth 20000 in
theorem ggX11_moved_X6_has : GoodIn wsX11_moved wsX6_has := goodIn_r _ [9, 10, 137, 138, 139, 140, 141, 142] (by decide +kernel) (by decide +kernel)
set_option maxRecDepth 20000 in
theorem gX11_moved_X6_has : GoodIn wsX11_moved (wsV RX11 269 RX6 yX6_has wsX6_has) := goodIn_app (goodIn_of _ (by decide +kernel)) ggX11_moved_X6_has
set_option maxRecDepth 20000 in
theorem ggX11_moved_X11_isClouded : GoodIn wsX11_moved wsX11_isClouded := goodIn_r _ [15, 1, 16, 4, 17, 18, 19, 20, 21, 22, 23, 24, 25, 26, 27, 28, 29, 30, 31, 32, 33, 34, 35, 36, 37, 38, 39, 40, 41, 42, 43, 44, 45, 46, 47, 48, 49, 50, 51, 52, 53, 54, 55, 56, 57, 58, 59, 60, 61, 62, 63, 64, 65, 66, 67, 68, 69, 114, 115, 116, 117, 118, 119, 120, 121, 122, 123, 124, 125, 126, 127, 128, 129, 130, 131, 132, 133, 134, 135, 136, 143, 144, 145, 146, 147, 148, 149, 150, 151, 152, 153, 154, 155, 156, 157, 158, 159, 160, 161, 162] (by decide +kernel) (by decide +kernel)
set_option maxRecDepth 20000 in
theorem gX11_moved_X11_isClouded : GoodIn wsX11_moved (wsV RX11 233 RX11 yX11_isClouded wsX11_isClouded) := goodIn_app (goodIn_of _ (by decide +kernel)) ggX11_moved_X11_isClouded
set_option maxRecDepth 20000 in
theorem ggX11_moved_X0_takenRooms : GoodIn wsX11_moved wsX0_takenRooms := goodIn_r _ [73, 74, 75, 76, 53, 77, 63, 78, 79, 80, 81, 82, 65, 83, 84, 85, 86, 87, 64, 88, 89, 57, 59, 90, 91, 92, 93, 61, 94, 95, 96, 8, 97, 98, 99, 100, 101, 102, 103, 155, 156, 157, 158, 159, 160, 161, 162, 137, 138, 139, 140, 141, 142] (by decide +kernel) (by decide +kernel)
set_option maxRecDepth 20000 in
theorem gX11_moved_X0_takenRooms : GoodIn wsX11_moved (wsV RX11 243 RX0 yX0_takenRooms wsX0_takenRooms) := goodIn_app (goodIn_of _ (by decide +kernel)) ggX11_moved_X0_takenRooms
set_option maxRecDepth 20000 in
theorem ggX11_moved_X6_peopleIn : GoodIn wsX11_moved wsX6_peopleIn := goodIn_r _ [107, 10, 108, 109, 137, 138, 139, 140, 141, 142] (by decide +kernel) (by decide +kernel)
set_option maxRecDepth 20000 in
theorem gX11_moved_X6_peopleIn : GoodIn wsX11_moved (wsV RX11 250 RX6 yX6_peopleIn wsX6_peopleIn) := goodIn_app (goodIn_of _ (by decide +kernel)) ggX11_moved_X6_peopleIn
set_option maxRecDepth 20000 in
theorem ggX11_moved_X0_move : GoodIn wsX11_moved wsX0_move := goodIn_r _ [113, 64, 88, 89, 155, 156, 157, 158, 159, 160, 161, 162] (by decide +kernel) (by decide +kernel)
set_option maxRecDepth 20000 in
theorem gX11_moved_X0_move : GoodIn wsX11_moved (wsV RX11 270 RX0 yX0_move wsX0_move) := goodIn_app (goodIn_of _ (by decide +kernel)) ggX11_moved_X0_move
theorem dX11_moved_0 : decode cX11_moved 0 = .ok (.iload 4, 2) := by decide +kernel
theorem dX11_moved_2 : decode cX11_moved 2 = .ok (.sipush (-500), 3) := by decide +kernel
theorem dX11_moved_5 : decode cX11_moved 5 = .ok (.if_icmp .lt 31, 3) := by decide +kernel
theorem dX11_moved_8 : decode cX11_moved 8 = .ok (.iload 4, 2) := by decide +kernel
theorem dX11_moved_10 : decode cX11_moved 10 = .ok (.sipush 999, 3) := by decide +kernel
theorem dX11_moved_13 : decode cX11_moved 13 = .ok (.if_icmp .gt 23, 3) := by decide +kernel
theorem dX11_moved_16 : decode cX11_moved 16 = .ok (.iload 5, 2) := by decide +kernel
theorem dX11_moved_18 : decode cX11_moved 18 = .ok (.sipush (-500), 3) := by decide +kernel
theorem dX11_moved_21 : decode cX11_moved 21 = .ok (.if_icmp .lt 15, 3) := by decide +kernel
theorem dX11_moved_24 : decode cX11_moved 24 = .ok (.iload 5, 2) := by decide +kernel
theorem dX11_moved_26 : decode cX11_moved 26 = .ok (.sipush 999, 3) := by decide +kernel
theorem dX11_moved_29 : decode cX11_moved 29 = .ok (.if_icmp .gt 7, 3) := by decide +kernel
theorem dX11_moved_32 : decode cX11_moved 32 = .ok (.iconst 1, 1) := by decide +kernel
theorem dX11_moved_33 : decode cX11_moved 33 = .ok (.goto 4, 3) := by decide +kernel
theorem dX11_moved_36 : decode cX11_moved 36 = .ok (.iconst 0, 1) := by decide +kernel
theorem dX11_moved_37 : decode cX11_moved 37 = .ok (.istore 6, 2) := by decide +kernel
theorem dX11_moved_39 : decode cX11_moved 39 = .ok (.iload 6, 2) := by decide +kernel
theorem dX11_moved_41 : decode cX11_moved 41 = .ok (.ifCond .eq 26, 3) := by decide +kernel
theorem dX11_moved_44 : decode cX11_moved 44 = .ok (.aload_n 0, 1) := by decide +kernel
theorem dX11_moved_45 : decode cX11_moved 45 = .ok (.getfield 62, 3) := by decide +kernel
theorem dX11_moved_48 : decode cX11_moved 48 = .ok (.getfield 246, 3) := by decide +kernel
theorem dX11_moved_51 : decode cX11_moved 51 = .ok (.iload_n 3, 1) := by decide +kernel
theorem dX11_moved_52 : decode cX11_moved 52 = .ok (.invokevirtual 269, 3) := by decide +kernel
theorem dX11_moved_55 : decode cX11_moved 55 = .ok (.ifCond .eq 12, 3) := by decide +kernel
theorem dX11_moved_58 : decode cX11_moved 58 = .ok (.aload_n 0, 1) := by decide +kernel
theorem dX11_moved_59 : decode cX11_moved 59 = .ok (.iload_n 1, 1) := by decide +kernel
theorem dX11_moved_60 : decode cX11_moved 60 = .ok (.iload_n 2, 1) := by decide +kernel
theorem dX11_moved_61 : decode cX11_moved 61 = .ok (.invokevirtual 233, 3) := by decide +kernel
theorem dX11_moved_64 : decode cX11_moved 64 = .ok (.ifCond .ne 6, 3) := by decide +kernel
theorem dX11_moved_67 : decode cX11_moved 67 = .ok (.ldc 109, 2) := by decide +kernel
theorem dX11_moved_69 : decode cX11_moved 69 = .ok (.ireturn, 1) := by decide +kernel
theorem dX11_moved_70 : decode cX11_moved 70 = .ok (.aload_n 0, 1) := by decide +kernel
theorem dX11_moved_71 : decode cX11_moved 71 = .ok (.getfield 62, 3) := by decide +kernel
theorem dX11_moved_74 : decode cX11_moved 74 = .ok (.getfield 246, 3) := by decide +kernel
theorem dX11_moved_77 : decode cX11_moved 77 = .ok (.aload_n 0, 1) := by decide +kernel
theorem dX11_moved_78 : decode cX11_moved 78 = .ok (.getfield 53, 3) := by decide +kernel
theorem dX11_moved_81 : decode cX11_moved 81 = .ok (.invokevirtual 243, 3) := by decide +kernel
theorem dX11_moved_84 : decode cX11_moved 84 = .ok (.iload_n 2, 1) := by decide +kernel
theorem dX11_moved_85 : decode cX11_moved 85 = .ok (.invokevirtual 250, 3) := by decide +kernel
theorem dX11_moved_88 : decode cX11_moved 88 = .ok (.istore 7, 2) := by decide +kernel
theorem dX11_moved_90 : decode cX11_moved 90 = .ok (.aload_n 0, 1) := by decide +kernel
theorem dX11_moved_91 : decode cX11_moved 91 = .ok (.getfield 53, 3) := by decide +kernel
theorem dX11_moved_94 : decode cX11_moved 94 = .ok (.iload_n 3, 1) := by decide +kernel
theorem dX11_moved_95 : decode cX11_moved 95 = .ok (.iload 4, 2) := by decide +kernel
theorem dX11_moved_97 : decode cX11_moved 97 = .ok (.iload 5, 2) := by decide +kernel
theorem dX11_moved_99 : decode cX11_moved 99 = .ok (.invokevirtual 270, 3) := by decide +kernel
theorem dX11_moved_102 : decode cX11_moved 102 = .ok (.iload 7, 2) := by decide +kernel
theorem dX11_moved_104 : decode cX11_moved 104 = .ok (.aload_n 0, 1) := by decide +kernel
theorem dX11_moved_105 : decode cX11_moved 105 = .ok (.getfield 62, 3) := by decide +kernel
theorem dX11_moved_108 : decode cX11_moved 108 = .ok (.getfield 246, 3) := by decide +kernel
theorem dX11_moved_111 : decode cX11_moved 111 = .ok (.aload_n 0, 1) := by decide +kernel
theorem dX11_moved_112 : decode cX11_moved 112 = .ok (.getfield 53, 3) := by decide +kernel
theorem dX11_moved_115 : decode cX11_moved 115 = .ok (.invokevirtual 243, 3) := by decide +kernel
theorem dX11_moved_118 : decode cX11_moved 118 = .ok (.iload_n 2, 1) := by decide +kernel
theorem dX11_moved_119 : decode cX11_moved 119 = .ok (.invokevirtual 250, 3) := by decide +kernel
theorem dX11_moved_122 : decode cX11_moved 122 = .ok (.isub, 1) := by decide +kernel
theorem dX11_moved_123 : decode cX11_moved 123 = .ok (.ireturn, 1) := by decide +kernel
set_option maxRecDepth 20000 in
theorem ggX11_risk_X10_pipeAt : GoodIn wsX11_risk wsX10_pipeAt := goodIn_r _ [12, 13, 14, 125, 126, 127, 128, 129, 130, 131, 132, 133, 134, 135, 136] (by decide +kernel) (by decide +kernel)
set_option maxRecDepth 20000 in
theorem gX11_risk_X10_pipeAt : GoodIn wsX11_risk (wsV RX11 110 RX10 yX10_pipeAt wsX10_pipeAt) := goodIn_app (goodIn_of _ (by decide +kernel)) ggX11_risk_X10_pipeAt
set_option maxRecDepth 20000 in
theorem ggX11_risk_X1_has : GoodIn wsX11_risk wsX1_has := goodIn_r _ [19, 20, 137, 138, 139, 140, 141] (by decide +kernel) (by decide +kernel)
set_option maxRecDepth 20000 in
theorem gX11_risk_X1_has : GoodIn wsX11_risk (wsV RX11 166 RX1 yX1_has wsX1_has) := goodIn_app (goodIn_of _ (by decide +kernel)) ggX11_risk_X1_has
set_option maxRecDepth 20000 in
theorem ggX11_risk_X11_forgetTaken : GoodIn wsX11_risk wsX11_forgetTaken := goodIn_r _ [25, 26, 114, 115, 116, 117, 118, 119, 120, 121, 122, 123, 124] (by decide +kernel) (by decide +kernel)
set_option maxRecDepth 20000 in
theorem gX11_risk_X11_forgetTaken : GoodIn wsX11_risk (wsV RX11 255 RX11 yX11_forgetTaken wsX11_forgetTaken) := goodIn_app (goodIn_of _ (by decide +kernel)) ggX11_risk_X11_forgetTaken
set_option maxRecDepth 20000 in
theorem ggX11_risk_X11_peopleTaken : GoodIn wsX11_risk wsX11_peopleTaken := goodIn_r _ [30, 1, 2, 26, 31, 32, 33, 34, 35, 18, 36, 37, 38, 39, 40, 41, 42, 43, 44, 45, 46, 47, 48, 49, 50, 51, 52, 53, 54, 55, 56, 57, 58, 59, 60, 61, 62, 63, 64, 65, 66, 67, 68, 69, 70, 71, 72, 73, 74, 75, 76, 77, 78, 79, 80, 81, 82, 83, 84, 85, 86, 87, 88, 89, 90, 91, 92, 93, 94, 6, 95, 96, 97, 98, 99, 100, 101, 102, 103, 104, 105, 106, 107, 108, 109, 110, 111, 112, 113, 114, 115, 116, 117, 118, 119, 120, 121, 122, 123, 124, 125, 126, 127, 128, 129, 130, 131, 132, 133, 134, 135, 136, 137, 138, 139, 140, 141, 142, 143, 144, 145, 146, 147, 148, 149, 150, 151, 152, 153, 154, 155, 156, 157, 158, 159, 160, 161, 162] (by decide +kernel) (by decide +kernel)
set_option maxRecDepth 20000 in
theorem gX11_risk_X11_peopleTaken : GoodIn wsX11_risk (wsV RX11 265 RX11 yX11_peopleTaken wsX11_peopleTaken) := goodIn_app (goodIn_of _ (by decide +kernel)) ggX11_risk_X11_peopleTaken
theorem dX11_risk_0 : decode cX11_risk 0 = .ok (.aload_n 0, 1) := by decide +kernel
theorem dX11_risk_1 : decode cX11_risk 1 = .ok (.getfield 62, 3) := by decide +kernel
theorem dX11_risk_4 : decode cX11_risk 4 = .ok (.iload_n 1, 1) := by decide +kernel
theorem dX11_risk_5 : decode cX11_risk 5 = .ok (.invokevirtual 110, 3) := by decide +kernel
theorem dX11_risk_8 : decode cX11_risk 8 = .ok (.astore 4, 2) := by decide +kernel
theorem dX11_risk_10 : decode cX11_risk 10 = .ok (.aload 4, 2) := by decide +kernel
theorem dX11_risk_12 : decode cX11_risk 12 = .ok (.ifnull 29, 3) := by decide +kernel
theorem dX11_risk_15 : decode cX11_risk 15 = .ok (.aload_n 0, 1) := by decide +kernel
theorem dX11_risk_16 : decode cX11_risk 16 = .ok (.getfield 62, 3) := by decide +kernel
theorem dX11_risk_19 : decode cX11_risk 19 = .ok (.getfield 163, 3) := by decide +kernel
theorem dX11_risk_22 : decode cX11_risk 22 = .ok (.iload_n 2, 1) := by decide +kernel
theorem dX11_risk_23 : decode cX11_risk 23 = .ok (.invokevirtual 166, 3) := by decide +kernel
theorem dX11_risk_26 : decode cX11_risk 26 = .ok (.ifCond .eq 15, 3) := by decide +kernel
theorem dX11_risk_29 : decode cX11_risk 29 = .ok (.iload_n 3, 1) := by decide +kernel
theorem dX11_risk_30 : decode cX11_risk 30 = .ok (.iconst 1, 1) := by decide +kernel
theorem dX11_risk_31 : decode cX11_risk 31 = .ok (.if_icmp .lt 10, 3) := by decide +kernel
theorem dX11_risk_34 : decode cX11_risk 34 = .ok (.iload_n 3, 1) := by decide +kernel
theorem dX11_risk_35 : decode cX11_risk 35 = .ok (.sipush 200, 3) := by decide +kernel
theorem dX11_risk_38 : decode cX11_risk 38 = .ok (.if_icmp .le 6, 3) := by decide +kernel
theorem dX11_risk_41 : decode cX11_risk 41 = .ok (.bipush (-2), 2) := by decide +kernel
theorem dX11_risk_43 : decode cX11_risk 43 = .ok (.ireturn, 1) := by decide +kernel
theorem dX11_risk_44 : decode cX11_risk 44 = .ok (.aload_n 0, 1) := by decide +kernel
theorem dX11_risk_45 : decode cX11_risk 45 = .ok (.invokevirtual 255, 3) := by decide +kernel
theorem dX11_risk_48 : decode cX11_risk 48 = .ok (.iconst 0, 1) := by decide +kernel
theorem dX11_risk_49 : decode cX11_risk 49 = .ok (.istore 5, 2) := by decide +kernel
theorem dX11_risk_51 : decode cX11_risk 51 = .ok (.aload_n 0, 1) := by decide +kernel
theorem dX11_risk_52 : decode cX11_risk 52 = .ok (.getfield 62, 3) := by decide +kernel
theorem dX11_risk_55 : decode cX11_risk 55 = .ok (.getfield 163, 3) := by decide +kernel
theorem dX11_risk_58 : decode cX11_risk 58 = .ok (.getfield 259, 3) := by decide +kernel
theorem dX11_risk_61 : decode cX11_risk 61 = .ok (.iload_n 2, 1) := by decide +kernel
theorem dX11_risk_62 : decode cX11_risk 62 = .ok (.iload_n 3, 1) := by decide +kernel
theorem dX11_risk_63 : decode cX11_risk 63 = .ok (.iadd, 1) := by decide +kernel
theorem dX11_risk_64 : decode cX11_risk 64 = .ok (.invokestatic 262, 3) := by decide +kernel
theorem dX11_risk_67 : decode cX11_risk 67 = .ok (.istore 6, 2) := by decide +kernel
theorem dX11_risk_69 : decode cX11_risk 69 = .ok (.iload_n 2, 1) := by decide +kernel
theorem dX11_risk_70 : decode cX11_risk 70 = .ok (.istore 7, 2) := by decide +kernel
theorem dX11_risk_72 : decode cX11_risk 72 = .ok (.iload 7, 2) := by decide +kernel
theorem dX11_risk_74 : decode cX11_risk 74 = .ok (.iload 6, 2) := by decide +kernel
theorem dX11_risk_76 : decode cX11_risk 76 = .ok (.if_icmp .ge 22, 3) := by decide +kernel
theorem dX11_risk_79 : decode cX11_risk 79 = .ok (.iload 5, 2) := by decide +kernel
theorem dX11_risk_81 : decode cX11_risk 81 = .ok (.aload_n 0, 1) := by decide +kernel
theorem dX11_risk_82 : decode cX11_risk 82 = .ok (.aload 4, 2) := by decide +kernel
theorem dX11_risk_84 : decode cX11_risk 84 = .ok (.iload 7, 2) := by decide +kernel
theorem dX11_risk_86 : decode cX11_risk 86 = .ok (.invokevirtual 265, 3) := by decide +kernel
theorem dX11_risk_89 : decode cX11_risk 89 = .ok (.iadd, 1) := by decide +kernel
theorem dX11_risk_90 : decode cX11_risk 90 = .ok (.istore 5, 2) := by decide +kernel
theorem dX11_risk_92 : decode cX11_risk 92 = .ok (.iinc 7 1, 3) := by decide +kernel
theorem dX11_risk_95 : decode cX11_risk 95 = .ok (.goto (-23), 3) := by decide +kernel
theorem dX11_risk_98 : decode cX11_risk 98 = .ok (.iload 5, 2) := by decide +kernel
theorem dX11_risk_100 : decode cX11_risk 100 = .ok (.ireturn, 1) := by decide +kernel
set_option maxRecDepth 20000 in
theorem ggX11_safest_X6_has : GoodIn wsX11_safest wsX6_has := goodIn_r _ [9, 10, 137, 138, 139, 140, 141, 142] (by decide +kernel) (by decide +kernel)
set_option maxRecDepth 20000 in
theorem gX11_safest_X6_has : GoodIn wsX11_safest (wsV RX11 269 RX6 yX6_has wsX6_has) := goodIn_app (goodIn_of _ (by decide +kernel)) ggX11_safest_X6_has
set_option maxRecDepth 20000 in
theorem ggX11_safest_X11_isClouded : GoodIn wsX11_safest wsX11_isClouded := goodIn_r _ [15, 1, 16, 4, 17, 18, 19, 20, 21, 22, 23, 24, 25, 26, 27, 28, 29, 30, 31, 32, 33, 34, 35, 36, 37, 38, 39, 40, 41, 42, 43, 44, 45, 46, 47, 48, 49, 50, 51, 52, 53, 54, 55, 56, 57, 58, 59, 60, 61, 62, 63, 64, 65, 66, 67, 68, 69, 114, 115, 116, 117, 118, 119, 120, 121, 122, 123, 124, 125, 126, 127, 128, 129, 130, 131, 132, 133, 134, 135, 136, 143, 144, 145, 146, 147, 148, 149, 150, 151, 152, 153, 154, 155, 156, 157, 158, 159, 160, 161, 162] (by decide +kernel) (by decide +kernel)
set_option maxRecDepth 20000 in
theorem gX11_safest_X11_isClouded : GoodIn wsX11_safest (wsV RX11 233 RX11 yX11_isClouded wsX11_isClouded) := goodIn_app (goodIn_of _ (by decide +kernel)) ggX11_safest_X11_isClouded
set_option maxRecDepth 20000 in
theorem ggX11_safest_X0_move : GoodIn wsX11_safest wsX0_move := goodIn_r _ [73, 64, 74, 75, 155, 156, 157, 158, 159, 160, 161, 162] (by decide +kernel) (by decide +kernel)
set_option maxRecDepth 20000 in
theorem gX11_safest_X0_move : GoodIn wsX11_safest (wsV RX11 270 RX0 yX0_move wsX0_move) := goodIn_app (goodIn_of _ (by decide +kernel)) ggX11_safest_X0_move
set_option maxRecDepth 20000 in
theorem ggX11_safest_X0_takenRooms : GoodIn wsX11_safest wsX0_takenRooms := goodIn_r _ [79, 80, 81, 82, 53, 83, 63, 84, 85, 86, 87, 88, 65, 89, 90, 91, 92, 93, 64, 74, 75, 57, 59, 94, 95, 96, 97, 61, 98, 99, 100, 8, 101, 102, 103, 104, 105, 106, 107, 155, 156, 157, 158, 159, 160, 161, 162, 137, 138, 139, 140, 141, 142] (by decide +kernel) (by decide +kernel)
set_option maxRecDepth 20000 in
theorem gX11_safest_X0_takenRooms : GoodIn wsX11_safest (wsV RX11 243 RX0 yX0_takenRooms wsX0_takenRooms) := goodIn_app (goodIn_of _ (by decide +kernel)) ggX11_safest_X0_takenRooms
set_option maxRecDepth 20000 in
theorem ggX11_safest_X6_peopleIn : GoodIn wsX11_safest wsX6_peopleIn := goodIn_r _ [111, 10, 112, 113, 137, 138, 139, 140, 141, 142] (by decide +kernel) (by decide +kernel)
set_option maxRecDepth 20000 in
theorem gX11_safest_X6_peopleIn : GoodIn wsX11_safest (wsV RX11 250 RX6 yX6_peopleIn wsX6_peopleIn) := goodIn_app (goodIn_of _ (by decide +kernel)) ggX11_safest_X6_peopleIn
theorem dX11_safest_0 : decode cX11_safest 0 = .ok (.aload_n 0, 1) := by decide +kernel
theorem dX11_safest_1 : decode cX11_safest 1 = .ok (.getfield 62, 3) := by decide +kernel
theorem dX11_safest_4 : decode cX11_safest 4 = .ok (.getfield 246, 3) := by decide +kernel
theorem dX11_safest_7 : decode cX11_safest 7 = .ok (.iload_n 3, 1) := by decide +kernel
theorem dX11_safest_8 : decode cX11_safest 8 = .ok (.invokevirtual 269, 3) := by decide +kernel
theorem dX11_safest_11 : decode cX11_safest 11 = .ok (.ifCond .eq 12, 3) := by decide +kernel
theorem dX11_safest_14 : decode cX11_safest 14 = .ok (.aload_n 0, 1) := by decide +kernel
theorem dX11_safest_15 : decode cX11_safest 15 = .ok (.iload_n 1, 1) := by decide +kernel
theorem dX11_safest_16 : decode cX11_safest 16 = .ok (.iload_n 2, 1) := by decide +kernel
theorem dX11_safest_17 : decode cX11_safest 17 = .ok (.invokevirtual 233, 3) := by decide +kernel
theorem dX11_safest_20 : decode cX11_safest 20 = .ok (.ifCond .ne 6, 3) := by decide +kernel
theorem dX11_safest_23 : decode cX11_safest 23 = .ok (.bipush (-2), 2) := by decide +kernel
theorem dX11_safest_25 : decode cX11_safest 25 = .ok (.ireturn, 1) := by decide +kernel
theorem dX11_safest_26 : decode cX11_safest 26 = .ok (.iconst 0, 1) := by decide +kernel
theorem dX11_safest_27 : decode cX11_safest 27 = .ok (.istore 4, 2) := by decide +kernel
theorem dX11_safest_29 : decode cX11_safest 29 = .ok (.ldc_w 258, 3) := by decide +kernel
theorem dX11_safest_32 : decode cX11_safest 32 = .ok (.istore 5, 2) := by decide +kernel
theorem dX11_safest_34 : decode cX11_safest 34 = .ok (.iconst 0, 1) := by decide +kernel
theorem dX11_safest_35 : decode cX11_safest 35 = .ok (.istore 6, 2) := by decide +kernel
theorem dX11_safest_37 : decode cX11_safest 37 = .ok (.iload 6, 2) := by decide +kernel
theorem dX11_safest_39 : decode cX11_safest 39 = .ok (.sipush 900, 3) := by decide +kernel
theorem dX11_safest_42 : decode cX11_safest 42 = .ok (.if_icmp .gt 80, 3) := by decide +kernel
theorem dX11_safest_45 : decode cX11_safest 45 = .ok (.iconst 0, 1) := by decide +kernel
theorem dX11_safest_46 : decode cX11_safest 46 = .ok (.istore 7, 2) := by decide +kernel
theorem dX11_safest_48 : decode cX11_safest 48 = .ok (.iload 7, 2) := by decide +kernel
theorem dX11_safest_50 : decode cX11_safest 50 = .ok (.sipush 500, 3) := by decide +kernel
theorem dX11_safest_53 : decode cX11_safest 53 = .ok (.if_icmp .gt 63, 3) := by decide +kernel
theorem dX11_safest_56 : decode cX11_safest 56 = .ok (.aload_n 0, 1) := by decide +kernel
theorem dX11_safest_57 : decode cX11_safest 57 = .ok (.getfield 53, 3) := by decide +kernel
theorem dX11_safest_60 : decode cX11_safest 60 = .ok (.iload_n 3, 1) := by decide +kernel
theorem dX11_safest_61 : decode cX11_safest 61 = .ok (.iload 6, 2) := by decide +kernel
theorem dX11_safest_63 : decode cX11_safest 63 = .ok (.iload 7, 2) := by decide +kernel
theorem dX11_safest_65 : decode cX11_safest 65 = .ok (.invokevirtual 270, 3) := by decide +kernel
theorem dX11_safest_68 : decode cX11_safest 68 = .ok (.aload_n 0, 1) := by decide +kernel
theorem dX11_safest_69 : decode cX11_safest 69 = .ok (.getfield 62, 3) := by decide +kernel
theorem dX11_safest_72 : decode cX11_safest 72 = .ok (.getfield 246, 3) := by decide +kernel
theorem dX11_safest_75 : decode cX11_safest 75 = .ok (.aload_n 0, 1) := by decide +kernel
theorem dX11_safest_76 : decode cX11_safest 76 = .ok (.getfield 53, 3) := by decide +kernel
theorem dX11_safest_79 : decode cX11_safest 79 = .ok (.invokevirtual 243, 3) := by decide +kernel
theorem dX11_safest_82 : decode cX11_safest 82 = .ok (.iload_n 2, 1) := by decide +kernel
theorem dX11_safest_83 : decode cX11_safest 83 = .ok (.invokevirtual 250, 3) := by decide +kernel
theorem dX11_safest_86 : decode cX11_safest 86 = .ok (.istore 8, 2) := by decide +kernel
theorem dX11_safest_88 : decode cX11_safest 88 = .ok (.iload 8, 2) := by decide +kernel
theorem dX11_safest_90 : decode cX11_safest 90 = .ok (.iload 5, 2) := by decide +kernel
theorem dX11_safest_92 : decode cX11_safest 92 = .ok (.if_icmp .ge 18, 3) := by decide +kernel
theorem dX11_safest_95 : decode cX11_safest 95 = .ok (.iload 8, 2) := by decide +kernel
theorem dX11_safest_97 : decode cX11_safest 97 = .ok (.istore 5, 2) := by decide +kernel
theorem dX11_safest_99 : decode cX11_safest 99 = .ok (.sipush 1000, 3) := by decide +kernel
theorem dX11_safest_102 : decode cX11_safest 102 = .ok (.iload 6, 2) := by decide +kernel
theorem dX11_safest_104 : decode cX11_safest 104 = .ok (.imul, 1) := by decide +kernel
theorem dX11_safest_105 : decode cX11_safest 105 = .ok (.iload 7, 2) := by decide +kernel
theorem dX11_safest_107 : decode cX11_safest 107 = .ok (.iadd, 1) := by decide +kernel
theorem dX11_safest_108 : decode cX11_safest 108 = .ok (.istore 4, 2) := by decide +kernel
theorem dX11_safest_110 : decode cX11_safest 110 = .ok (.iinc 7 100, 3) := by decide +kernel
theorem dX11_safest_113 : decode cX11_safest 113 = .ok (.goto (-65), 3) := by decide +kernel
theorem dX11_safest_116 : decode cX11_safest 116 = .ok (.iinc 6 100, 3) := by decide +kernel
theorem dX11_safest_119 : decode cX11_safest 119 = .ok (.goto (-82), 3) := by decide +kernel
theorem dX11_safest_122 : decode cX11_safest 122 = .ok (.iload 4, 2) := by decide +kernel
theorem dX11_safest_124 : decode cX11_safest 124 = .ok (.ireturn, 1) := by decide +kernel
set_option maxRecDepth 20000 in
theorem ggX11_whole_X4_wholeChanges : GoodIn wsX11_whole wsX4_wholeChanges := goodIn_r _ [7, 8, 9, 10, 11, 12, 13, 14, 15, 6, 16, 17, 18, 19, 20, 21, 22, 23, 24, 48, 49, 50, 51, 52, 53, 54, 55, 56, 57, 58] (by decide +kernel) (by decide +kernel)
set_option maxRecDepth 20000 in
theorem gX11_whole_X4_wholeChanges : GoodIn wsX11_whole (wsV RX11 278 RX4 yX4_wholeChanges wsX4_wholeChanges) := goodIn_app (goodIn_of _ (by decide +kernel)) ggX11_whole_X4_wholeChanges
theorem dX11_whole_0 : decode cX11_whole 0 = .ok (.aload_n 0, 1) := by decide +kernel
theorem dX11_whole_1 : decode cX11_whole 1 = .ok (.getfield 62, 3) := by decide +kernel
theorem dX11_whole_4 : decode cX11_whole 4 = .ok (.getfield 274, 3) := by decide +kernel
theorem dX11_whole_7 : decode cX11_whole 7 = .ok (.iconst (-1), 1) := by decide +kernel
theorem dX11_whole_8 : decode cX11_whole 8 = .ok (.invokevirtual 278, 3) := by decide +kernel
theorem dX11_whole_11 : decode cX11_whole 11 = .ok (.ireturn, 1) := by decide +kernel
set_option maxRecDepth 20000 in
theorem ggX11_staying_X4_hasPerson : GoodIn wsX11_staying wsX4_hasPerson := goodIn_r _ [7, 8, 59, 60, 61, 62, 63, 64, 65, 66, 67, 68, 69] (by decide +kernel) (by decide +kernel)
set_option maxRecDepth 20000 in
theorem gX11_staying_X4_hasPerson : GoodIn wsX11_staying (wsV RX11 283 RX4 yX4_hasPerson wsX4_hasPerson) := goodIn_app (goodIn_of _ (by decide +kernel)) ggX11_staying_X4_hasPerson
set_option maxRecDepth 20000 in
theorem ggX11_staying_X4_wholeChanges : GoodIn wsX11_staying wsX4_wholeChanges := goodIn_r _ [12, 13, 14, 15, 16, 17, 18, 19, 20, 6, 21, 8, 22, 23, 24, 25, 26, 27, 28, 59, 60, 61, 62, 63, 64, 65, 66, 67, 68, 69] (by decide +kernel) (by decide +kernel)
set_option maxRecDepth 20000 in
theorem gX11_staying_X4_wholeChanges : GoodIn wsX11_staying (wsV RX11 278 RX4 yX4_wholeChanges wsX4_wholeChanges) := goodIn_app (goodIn_of _ (by decide +kernel)) ggX11_staying_X4_wholeChanges
set_option maxRecDepth 20000 in
theorem ggX11_staying_J6_bitCount_0f7a4 : GoodIn wsX11_staying wsJ6_bitCount_0f7a4 := goodIn_r _ [32, 33, 34, 35] (by decide +kernel) (by decide +kernel)
set_option maxRecDepth 20000 in
theorem gX11_staying_J6_bitCount_0f7a4 : GoodIn wsX11_staying (va_wsS RX11 286 yJ6_bitCount_0f7a4 wsJ6_bitCount_0f7a4) := goodIn_app (goodIn_of _ (by decide +kernel)) ggX11_staying_J6_bitCount_0f7a4
theorem dX11_staying_0 : decode cX11_staying 0 = .ok (.aload_n 0, 1) := by decide +kernel
theorem dX11_staying_1 : decode cX11_staying 1 = .ok (.getfield 62, 3) := by decide +kernel
theorem dX11_staying_4 : decode cX11_staying 4 = .ok (.getfield 274, 3) := by decide +kernel
theorem dX11_staying_7 : decode cX11_staying 7 = .ok (.iload_n 1, 1) := by decide +kernel
theorem dX11_staying_8 : decode cX11_staying 8 = .ok (.invokevirtual 283, 3) := by decide +kernel
theorem dX11_staying_11 : decode cX11_staying 11 = .ok (.ifCond .ne 6, 3) := by decide +kernel
theorem dX11_staying_14 : decode cX11_staying 14 = .ok (.bipush (-2), 2) := by decide +kernel
theorem dX11_staying_16 : decode cX11_staying 16 = .ok (.ireturn, 1) := by decide +kernel
theorem dX11_staying_17 : decode cX11_staying 17 = .ok (.aload_n 0, 1) := by decide +kernel
theorem dX11_staying_18 : decode cX11_staying 18 = .ok (.getfield 62, 3) := by decide +kernel
theorem dX11_staying_21 : decode cX11_staying 21 = .ok (.getfield 274, 3) := by decide +kernel
theorem dX11_staying_24 : decode cX11_staying 24 = .ok (.iload_n 1, 1) := by decide +kernel
theorem dX11_staying_25 : decode cX11_staying 25 = .ok (.invokevirtual 278, 3) := by decide +kernel
theorem dX11_staying_28 : decode cX11_staying 28 = .ok (.invokestatic 286, 3) := by decide +kernel
theorem dX11_staying_31 : decode cX11_staying 31 = .ok (.istore_n 2, 1) := by decide +kernel
theorem dX11_staying_32 : decode cX11_staying 32 = .ok (.iload_n 2, 1) := by decide +kernel
theorem dX11_staying_33 : decode cX11_staying 33 = .ok (.aload_n 0, 1) := by decide +kernel
theorem dX11_staying_34 : decode cX11_staying 34 = .ok (.getfield 62, 3) := by decide +kernel
theorem dX11_staying_37 : decode cX11_staying 37 = .ok (.getfield 274, 3) := by decide +kernel
theorem dX11_staying_40 : decode cX11_staying 40 = .ok (.iconst (-1), 1) := by decide +kernel
theorem dX11_staying_41 : decode cX11_staying 41 = .ok (.invokevirtual 278, 3) := by decide +kernel
theorem dX11_staying_44 : decode cX11_staying 44 = .ok (.invokestatic 286, 3) := by decide +kernel
theorem dX11_staying_47 : decode cX11_staying 47 = .ok (.isub, 1) := by decide +kernel
theorem dX11_staying_48 : decode cX11_staying 48 = .ok (.ireturn, 1) := by decide +kernel
set_option maxRecDepth 20000 in
theorem ggX11_asked_X4_hasChange : GoodIn wsX11_asked wsX4_hasChange := goodIn_r _ [7, 8, 52, 53, 54, 55, 56, 57, 58, 59, 60, 61, 62] (by decide +kernel) (by decide +kernel)
set_option maxRecDepth 20000 in
theorem gX11_asked_X4_hasChange : GoodIn wsX11_asked (wsV RX11 291 RX4 yX4_hasChange wsX4_hasChange) := goodIn_app (goodIn_of _ (by decide +kernel)) ggX11_asked_X4_hasChange
set_option maxRecDepth 20000 in
theorem ggX11_asked_X4_ofChange : GoodIn wsX11_asked wsX4_ofChange := goodIn_r _ [12, 13, 14, 15, 16, 17, 18, 19, 6, 20, 21, 22, 23, 24, 25, 26, 27, 28, 52, 53, 54, 55, 56, 57, 58, 59, 60, 61, 62] (by decide +kernel) (by decide +kernel)
set_option maxRecDepth 20000 in
theorem gX11_asked_X4_ofChange : GoodIn wsX11_asked (wsV RX11 294 RX4 yX4_ofChange wsX4_ofChange) := goodIn_app (goodIn_of _ (by decide +kernel)) ggX11_asked_X4_ofChange
theorem dX11_asked_0 : decode cX11_asked 0 = .ok (.aload_n 0, 1) := by decide +kernel
theorem dX11_asked_1 : decode cX11_asked 1 = .ok (.getfield 62, 3) := by decide +kernel
theorem dX11_asked_4 : decode cX11_asked 4 = .ok (.getfield 274, 3) := by decide +kernel
theorem dX11_asked_7 : decode cX11_asked 7 = .ok (.iload_n 1, 1) := by decide +kernel
theorem dX11_asked_8 : decode cX11_asked 8 = .ok (.invokevirtual 291, 3) := by decide +kernel
theorem dX11_asked_11 : decode cX11_asked 11 = .ok (.ifCond .eq 18, 3) := by decide +kernel
theorem dX11_asked_14 : decode cX11_asked 14 = .ok (.aload_n 0, 1) := by decide +kernel
theorem dX11_asked_15 : decode cX11_asked 15 = .ok (.getfield 62, 3) := by decide +kernel
theorem dX11_asked_18 : decode cX11_asked 18 = .ok (.getfield 274, 3) := by decide +kernel
theorem dX11_asked_21 : decode cX11_asked 21 = .ok (.iload_n 1, 1) := by decide +kernel
theorem dX11_asked_22 : decode cX11_asked 22 = .ok (.iload_n 2, 1) := by decide +kernel
theorem dX11_asked_23 : decode cX11_asked 23 = .ok (.invokevirtual 294, 3) := by decide +kernel
theorem dX11_asked_26 : decode cX11_asked 26 = .ok (.goto 5, 3) := by decide +kernel
theorem dX11_asked_29 : decode cX11_asked 29 = .ok (.bipush (-2), 2) := by decide +kernel
theorem dX11_asked_31 : decode cX11_asked 31 = .ok (.ireturn, 1) := by decide +kernel
set_option maxRecDepth 20000 in
theorem ggX11_who_X4_firstKnowing : GoodIn wsX11_who wsX4_firstKnowing := goodIn_r _ [7, 8, 9, 10, 11, 12, 6, 13, 14, 15, 39, 40, 41, 42, 43, 44, 45, 46, 47, 48, 49] (by decide +kernel) (by decide +kernel)
set_option maxRecDepth 20000 in
theorem gX11_who_X4_firstKnowing : GoodIn wsX11_who (wsV RX11 297 RX4 yX4_firstKnowing wsX4_firstKnowing) := goodIn_app (goodIn_of _ (by decide +kernel)) ggX11_who_X4_firstKnowing
theorem dX11_who_0 : decode cX11_who 0 = .ok (.iload_n 1, 1) := by decide +kernel
theorem dX11_who_1 : decode cX11_who 1 = .ok (.ifCond .lt 19, 3) := by decide +kernel
theorem dX11_who_4 : decode cX11_who 4 = .ok (.iload_n 1, 1) := by decide +kernel
theorem dX11_who_5 : decode cX11_who 5 = .ok (.iconst 3, 1) := by decide +kernel
theorem dX11_who_6 : decode cX11_who 6 = .ok (.if_icmp .gt 14, 3) := by decide +kernel
theorem dX11_who_9 : decode cX11_who 9 = .ok (.iload_n 2, 1) := by decide +kernel
theorem dX11_who_10 : decode cX11_who 10 = .ok (.ifCond .lt 10, 3) := by decide +kernel
theorem dX11_who_13 : decode cX11_who 13 = .ok (.iload_n 2, 1) := by decide +kernel
theorem dX11_who_14 : decode cX11_who 14 = .ok (.sipush 999, 3) := by decide +kernel
theorem dX11_who_17 : decode cX11_who 17 = .ok (.if_icmp .le 6, 3) := by decide +kernel
theorem dX11_who_20 : decode cX11_who 20 = .ok (.bipush (-2), 2) := by decide +kernel
theorem dX11_who_22 : decode cX11_who 22 = .ok (.ireturn, 1) := by decide +kernel
theorem dX11_who_23 : decode cX11_who 23 = .ok (.aload_n 0, 1) := by decide +kernel
theorem dX11_who_24 : decode cX11_who 24 = .ok (.getfield 62, 3) := by decide +kernel
theorem dX11_who_27 : decode cX11_who 27 = .ok (.getfield 274, 3) := by decide +kernel
theorem dX11_who_30 : decode cX11_who 30 = .ok (.iload_n 1, 1) := by decide +kernel
theorem dX11_who_31 : decode cX11_who 31 = .ok (.iload_n 2, 1) := by decide +kernel
theorem dX11_who_32 : decode cX11_who 32 = .ok (.invokevirtual 297, 3) := by decide +kernel
theorem dX11_who_35 : decode cX11_who 35 = .ok (.ireturn, 1) := by decide +kernel
set_option maxRecDepth 20000 in
theorem ggX11_rules_X4_leastRules : GoodIn wsX11_rules wsX4_leastRules := goodIn_r _ [7, 8, 9, 10, 11, 12, 13, 14, 15, 16, 17, 18, 6, 19, 20, 21, 22, 23, 24, 25, 26, 27, 28, 29, 30, 31, 32, 33, 34, 35, 36, 37, 38, 39, 40, 41, 65, 66, 67, 68, 69, 70, 71, 72, 73, 74, 75] (by decide +kernel) (by decide +kernel)
set_option maxRecDepth 20000 in
theorem gX11_rules_X4_leastRules : GoodIn wsX11_rules (wsV RX11 300 RX4 yX4_leastRules wsX4_leastRules) := goodIn_app (goodIn_of _ (by decide +kernel)) ggX11_rules_X4_leastRules
theorem dX11_rules_0 : decode cX11_rules 0 = .ok (.iload_n 1, 1) := by decide +kernel
theorem dX11_rules_1 : decode cX11_rules 1 = .ok (.ifCond .lt 9, 3) := by decide +kernel
theorem dX11_rules_4 : decode cX11_rules 4 = .ok (.iload_n 1, 1) := by decide +kernel
theorem dX11_rules_5 : decode cX11_rules 5 = .ok (.bipush 16, 2) := by decide +kernel
theorem dX11_rules_7 : decode cX11_rules 7 = .ok (.if_icmp .le 8, 3) := by decide +kernel
theorem dX11_rules_10 : decode cX11_rules 10 = .ok (.bipush (-2), 2) := by decide +kernel
theorem dX11_rules_12 : decode cX11_rules 12 = .ok (.goto 14, 3) := by decide +kernel
theorem dX11_rules_15 : decode cX11_rules 15 = .ok (.aload_n 0, 1) := by decide +kernel
theorem dX11_rules_16 : decode cX11_rules 16 = .ok (.getfield 62, 3) := by decide +kernel
theorem dX11_rules_19 : decode cX11_rules 19 = .ok (.getfield 274, 3) := by decide +kernel
theorem dX11_rules_22 : decode cX11_rules 22 = .ok (.iload_n 1, 1) := by decide +kernel
theorem dX11_rules_23 : decode cX11_rules 23 = .ok (.invokevirtual 300, 3) := by decide +kernel
theorem dX11_rules_26 : decode cX11_rules 26 = .ok (.ireturn, 1) := by decide +kernel
set_option maxRecDepth 20000 in
theorem ggX11_held_X4_askedInVain : GoodIn wsX11_held wsX4_askedInVain := goodIn_r _ [8, 9, 10, 11, 39, 40, 41, 42, 43, 44, 45, 46, 47, 48, 49] (by decide +kernel) (by decide +kernel)
set_option maxRecDepth 20000 in
theorem gX11_held_X4_askedInVain : GoodIn wsX11_held (wsV RX11 304 RX4 yX4_askedInVain wsX4_askedInVain) := goodIn_app (goodIn_of _ (by decide +kernel)) ggX11_held_X4_askedInVain
set_option maxRecDepth 20000 in
theorem ggX11_held_X4_askedAll : GoodIn wsX11_held wsX4_askedAll := goodIn_r _ [15, 9, 10, 11, 39, 40, 41, 42, 43, 44, 45, 46, 47, 48, 49] (by decide +kernel) (by decide +kernel)
set_option maxRecDepth 20000 in
theorem gX11_held_X4_askedAll : GoodIn wsX11_held (wsV RX11 307 RX4 yX4_askedAll wsX4_askedAll) := goodIn_app (goodIn_of _ (by decide +kernel)) ggX11_held_X4_askedAll
theorem dX11_held_0 : decode cX11_held 0 = .ok (.iload_n 1, 1) := by decide +kernel
theorem dX11_held_1 : decode cX11_held 1 = .ok (.ifCond .lt 10, 3) := by decide +kernel
theorem dX11_held_4 : decode cX11_held 4 = .ok (.iload_n 1, 1) := by decide +kernel
theorem dX11_held_5 : decode cX11_held 5 = .ok (.ldc_w 303, 3) := by decide +kernel
theorem dX11_held_8 : decode cX11_held 8 = .ok (.if_icmp .le 6, 3) := by decide +kernel
theorem dX11_held_11 : decode cX11_held 11 = .ok (.bipush (-2), 2) := by decide +kernel
theorem dX11_held_13 : decode cX11_held 13 = .ok (.ireturn, 1) := by decide +kernel
theorem dX11_held_14 : decode cX11_held 14 = .ok (.iconst 0, 1) := by decide +kernel
theorem dX11_held_15 : decode cX11_held 15 = .ok (.istore_n 3, 1) := by decide +kernel
theorem dX11_held_16 : decode cX11_held 16 = .ok (.iconst 0, 1) := by decide +kernel
theorem dX11_held_17 : decode cX11_held 17 = .ok (.istore 4, 2) := by decide +kernel
theorem dX11_held_19 : decode cX11_held 19 = .ok (.iload 4, 2) := by decide +kernel
theorem dX11_held_21 : decode cX11_held 21 = .ok (.iconst 4, 1) := by decide +kernel
theorem dX11_held_22 : decode cX11_held 22 = .ok (.if_icmp .ge 58, 3) := by decide +kernel
theorem dX11_held_25 : decode cX11_held 25 = .ok (.iload_n 1, 1) := by decide +kernel
theorem dX11_held_26 : decode cX11_held 26 = .ok (.iconst 4, 1) := by decide +kernel
theorem dX11_held_27 : decode cX11_held 27 = .ok (.iload 4, 2) := by decide +kernel
theorem dX11_held_29 : decode cX11_held 29 = .ok (.imul, 1) := by decide +kernel
theorem dX11_held_30 : decode cX11_held 30 = .ok (.ishr, 1) := by decide +kernel
theorem dX11_held_31 : decode cX11_held 31 = .ok (.bipush 15, 2) := by decide +kernel
theorem dX11_held_33 : decode cX11_held 33 = .ok (.iand, 1) := by decide +kernel
theorem dX11_held_34 : decode cX11_held 34 = .ok (.istore 5, 2) := by decide +kernel
theorem dX11_held_36 : decode cX11_held 36 = .ok (.iload_n 3, 1) := by decide +kernel
theorem dX11_held_37 : decode cX11_held 37 = .ok (.iload_n 2, 1) := by decide +kernel
theorem dX11_held_38 : decode cX11_held 38 = .ok (.ifCond .eq 20, 3) := by decide +kernel
theorem dX11_held_41 : decode cX11_held 41 = .ok (.aload_n 0, 1) := by decide +kernel
theorem dX11_held_42 : decode cX11_held 42 = .ok (.getfield 62, 3) := by decide +kernel
theorem dX11_held_45 : decode cX11_held 45 = .ok (.getfield 274, 3) := by decide +kernel
theorem dX11_held_48 : decode cX11_held 48 = .ok (.iload 4, 2) := by decide +kernel
theorem dX11_held_50 : decode cX11_held 50 = .ok (.iload 5, 2) := by decide +kernel
theorem dX11_held_52 : decode cX11_held 52 = .ok (.invokevirtual 304, 3) := by decide +kernel
theorem dX11_held_55 : decode cX11_held 55 = .ok (.goto 17, 3) := by decide +kernel
theorem dX11_held_58 : decode cX11_held 58 = .ok (.aload_n 0, 1) := by decide +kernel
theorem dX11_held_59 : decode cX11_held 59 = .ok (.getfield 62, 3) := by decide +kernel
theorem dX11_held_62 : decode cX11_held 62 = .ok (.getfield 274, 3) := by decide +kernel
theorem dX11_held_65 : decode cX11_held 65 = .ok (.iload 4, 2) := by decide +kernel
theorem dX11_held_67 : decode cX11_held 67 = .ok (.iload 5, 2) := by decide +kernel
theorem dX11_held_69 : decode cX11_held 69 = .ok (.invokevirtual 307, 3) := by decide +kernel
theorem dX11_held_72 : decode cX11_held 72 = .ok (.iadd, 1) := by decide +kernel
theorem dX11_held_73 : decode cX11_held 73 = .ok (.istore_n 3, 1) := by decide +kernel
theorem dX11_held_74 : decode cX11_held 74 = .ok (.iinc 4 1, 3) := by decide +kernel
theorem dX11_held_77 : decode cX11_held 77 = .ok (.goto (-58), 3) := by decide +kernel
theorem dX11_held_80 : decode cX11_held 80 = .ok (.iload_n 3, 1) := by decide +kernel
theorem dX11_held_81 : decode cX11_held 81 = .ok (.ireturn, 1) := by decide +kernel
set_option maxRecDepth 20000 in
theorem ggX11_count_X11_slotsWithRow : GoodIn wsX11_count wsX11_slotsWithRow := goodIn_r _ [19, 20, 21, 22, 23, 24, 25, 26, 27, 28, 29, 30, 31, 32, 75, 76, 77, 78] (by decide +kernel) (by decide +kernel)
set_option maxRecDepth 20000 in
theorem gX11_count_X11_slotsWithRow : GoodIn wsX11_count (wsV RX11 325 RX11 yX11_slotsWithRow wsX11_slotsWithRow) := goodIn_app (goodIn_of _ (by decide +kernel)) ggX11_count_X11_slotsWithRow
theorem dX11_count_0 : decode cX11_count 0 = .ok (.iload_n 1, 1) := by decide +kernel
theorem dX11_count_1 : decode cX11_count 1 = .ok (.tableswitch 147 0 9 #[55, 63, 71, 82, 93, 104, 115, 126, 134, 142], 55) := by decide +kernel
theorem dX11_count_56 : decode cX11_count 56 = .ok (.aload_n 0, 1) := by decide +kernel
theorem dX11_count_57 : decode cX11_count 57 = .ok (.getfield 62, 3) := by decide +kernel
theorem dX11_count_60 : decode cX11_count 60 = .ok (.getfield 310, 3) := by decide +kernel
theorem dX11_count_63 : decode cX11_count 63 = .ok (.ireturn, 1) := by decide +kernel
theorem dX11_count_64 : decode cX11_count 64 = .ok (.aload_n 0, 1) := by decide +kernel
theorem dX11_count_65 : decode cX11_count 65 = .ok (.getfield 62, 3) := by decide +kernel
theorem dX11_count_68 : decode cX11_count 68 = .ok (.getfield 222, 3) := by decide +kernel
theorem dX11_count_71 : decode cX11_count 71 = .ok (.ireturn, 1) := by decide +kernel
theorem dX11_count_72 : decode cX11_count 72 = .ok (.aload_n 0, 1) := by decide +kernel
theorem dX11_count_73 : decode cX11_count 73 = .ok (.getfield 62, 3) := by decide +kernel
theorem dX11_count_76 : decode cX11_count 76 = .ok (.getfield 163, 3) := by decide +kernel
theorem dX11_count_79 : decode cX11_count 79 = .ok (.getfield 259, 3) := by decide +kernel
theorem dX11_count_82 : decode cX11_count 82 = .ok (.ireturn, 1) := by decide +kernel
theorem dX11_count_83 : decode cX11_count 83 = .ok (.aload_n 0, 1) := by decide +kernel
theorem dX11_count_84 : decode cX11_count 84 = .ok (.getfield 62, 3) := by decide +kernel
theorem dX11_count_87 : decode cX11_count 87 = .ok (.getfield 246, 3) := by decide +kernel
