theorem dX11_moved_48 : decode cX11_moved 48 = .ok (.getfield 246, 3) := by decide +kernel
theorem dX11_moved_51 : decode cX11_moved 51 = .ok (.iload_n 3, 1) := by decide +kernel
theorem dX11_moved_52 : decode cX11_moved 52 = .ok (.invokevirtual 269, 3) := by decide +kernel
theorem dX11_moved_55 : decode cX11_moved 55 = .ok (.ifCond .eq 12, 3) := by decide +kernel
theorem dX11_moved_58 : decode cX11_moved 58 = .ok (.aload_n 0, 1) := by decide +kernel
theorem dX11_moved_59 : decode cX11_moved 59 = .ok (.iload_n 1, 1) := by decide +kernel
theorem dX11_moved_60 : decode cX11_moved 60 = .ok (.iload_n 2, 1) := by decide +kernel
theorem dX11_moved_61 : decode cX11_moved 61 = .ok (.invokevirtual 233, 3) := by decide +kernel
theorem dX11_moved_64 : decode cX11_moved 64 = .ok (.ifCond .ne 6, 3) := by decide +kernel
theorem dX11_moved_67 : decode cX11_moved 67 = .ok (.ldc 109, 2) := by decide +kernel
theorem dX11_moved_69 : decode cX11_moved 69 = .ok (.ireturn, 1) := by decide +kernel
theorem dX11_moved_70 : decode cX11_moved 70 = .ok (.aload_n 0, 1) := by decide +kernel
theorem dX11_moved_71 : decode cX11_moved 71 = .ok (.getfield 62, 3) := by decide +kernel
theorem dX11_moved_74 : decode cX11_moved 74 = .ok (.getfield 246, 3) := by decide +kernel
theorem dX11_moved_77 : decode cX11_moved 77 = .ok (.aload_n 0, 1) := by decide +kernel
theorem dX11_moved_78 : decode cX11_moved 78 = .ok (.getfield 53, 3) := by decide +kernel
theorem dX11_moved_81 : decode cX11_moved 81 = .ok (.invokevirtual 243, 3) := by decide +kernel
theorem dX11_moved_84 : decode cX11_moved 84 = .ok (.iload_n 2, 1) := by decide +kernel
theorem dX11_moved_85 : decode cX11_moved 85 = .ok (.invokevirtual 250, 3) := by decide +kernel
theorem dX11_moved_88 : decode cX11_moved 88 = .ok (.istore 7, 2) := by decide +kernel
theorem dX11_moved_90 : decode cX11_moved 90 = .ok (.aload_n 0, 1) := by decide +kernel
theorem dX11_moved_91 : decode cX11_moved 91 = .ok (.getfield 53, 3) := by decide +kernel
theorem dX11_moved_94 : decode cX11_moved 94 = .ok (.iload_n 3, 1) := by decide +kernel
theorem dX11_moved_95 : decode cX11_moved 95 = .ok (.iload 4, 2) := by decide +kernel
theorem dX11_moved_97 : decode cX11_moved 97 = .ok (.iload 5, 2) := by decide +kernel
theorem dX11_moved_99 : decode cX11_moved 99 = .ok (.invokevirtual 270, 3) := by decide +kernel
theorem dX11_moved_102 : decode cX11_moved 102 = .ok (.iload 7, 2) := by decide +kernel
theorem dX11_moved_104 : decode cX11_moved 104 = .ok (.aload_n 0, 1) := by decide +kernel
theorem dX11_moved_105 : decode cX11_moved 105 = .ok (.getfield 62, 3) := by decide +kernel
theorem dX11_moved_108 : decode cX11_moved 108 = .ok (.getfield 246, 3) := by decide +kernel
theorem dX11_moved_111 : decode cX11_moved 111 = .ok (.aload_n 0, 1) := by decide +kernel
theorem dX11_moved_112 : decode cX11_moved 112 = .ok (.getfield 53, 3) := by decide +kernel
theorem dX11_moved_115 : decode cX11_moved 115 = .ok (.invokevirtual 243, 3) := by decide +kernel
theorem dX11_moved_118 : decode cX11_moved 118 = .ok (.iload_n 2, 1) := by decide +kernel
theorem dX11_moved_119 : decode cX11_moved 119 = .ok (.invokevirtual 250, 3) := by decide +kernel
theorem dX11_moved_122 : decode cX11_moved 122 = .ok (.isub, 1) := by decide +kernel
theorem dX11_moved_123 : decode cX11_moved 123 = .ok (.ireturn, 1) := by decide +kernel
set_option maxRecDepth 20000 in
theorem ggX11_risk_X10_pipeAt : GoodIn wsX11_risk wsX10_pipeAt := goodIn_r _ [12, 13, 14, 125, 126, 127, 128, 129, 130, 131, 132, 133, 134, 135, 136] (by decide +kernel) (by decide +kernel)
set_option maxRecDepth 20000 in
theorem gX11_risk_X10_pipeAt : GoodIn wsX11_risk (wsV RX11 110 RX10 yX10_pipeAt wsX10_pipeAt) := goodIn_app (goodIn_of _ (by decide +kernel)) ggX11_risk_X10_pipeAt
set_option maxRecDepth 20000 in
theorem ggX11_risk_X1_has : GoodIn wsX11_risk wsX1_has := goodIn_r _ [19, 20, 137, 138, 139, 140, 141] (by decide +kernel) (by decide +kernel)
set_option maxRecDepth 20000 in
theorem gX11_risk_X1_has : GoodIn wsX11_risk (wsV RX11 166 RX1 yX1_has wsX1_has) := goodIn_app (goodIn_of _ (by decide +kernel)) ggX11_risk_X1_has
theorem dX11_risk_0 : decode cX11_risk 0 = .ok (.aload_n 0, 1) := by decide +kernel
theorem dX11_risk_1 : decode cX11_risk 1 = .ok (.getfield 62, 3) := by decide +kernel
theorem dX11_risk_4 : decode cX11_risk 4 = .ok (.iload_n 1, 1) := by decide +kernel
theorem dX11_risk_5 : decode cX11_risk 5 = .ok (.invokevirtual 110, 3) := by decide +kernel
theorem dX11_risk_8 : decode cX11_risk 8 = .ok (.astore 4, 2) := by decide +kernel
theorem dX11_risk_10 : decode cX11_risk 10 = .ok (.aload 4, 2) := by decide +kernel
theorem dX11_risk_12 : decode cX11_risk 12 = .ok (.ifnull 29, 3) := by decide +kernel
theorem dX11_risk_15 : decode cX11_risk 15 = .ok (.aload_n 0, 1) := by decide +kernel
theorem dX11_risk_16 : decode cX11_risk 16 = .ok (.getfield 62, 3) := by decide +kernel
theorem dX11_risk_19 : decode cX11_risk 19 = .ok (.getfield 163, 3) := by decide +kernel
theorem dX11_risk_22 : decode cX11_risk 22 = .ok (.iload_n 2, 1) := by decide +kernel
theorem dX11_risk_23 : decode cX11_risk 23 = .ok (.invokevirtual 166, 3) := by decide +kernel
theorem dX11_risk_26 : decode cX11_risk 26 = .ok (.ifCond .eq 15, 3) := by decide +kernel
theorem dX11_risk_29 : decode cX11_risk 29 = .ok (.iload_n 3, 1) := by decide +kernel
theorem dX11_risk_30 : decode cX11_risk 30 = .ok (.iconst 1, 1) := by decide +kernel
theorem dX11_risk_31 : decode cX11_risk 31 = .ok (.if_icmp .lt 10, 3) := by decide +kernel
theorem dX11_risk_34 : decode cX11_risk 34 = .ok (.iload_n 3, 1) := by decide +kernel
theorem dX11_risk_35 : decode cX11_risk 35 = .ok (.sipush 200, 3) := by decide +kernel
theorem dX11_risk_38 : decode cX11_risk 38 = .ok (.if_icmp .le 6, 3) := by decide +kernel
theorem dX11_risk_41 : decode cX11_risk 41 = .ok (.bipush (-2), 2) := by decide +kernel
theorem dX11_risk_43 : decode cX11_risk 43 = .ok (.ireturn, 1) := by decide +kernel
theorem dX11_risk_44 : decode cX11_risk 44 = .ok (.aload_n 0, 1) := by decide +kernel
theorem dX11_risk_45 : decode cX11_risk 45 = .ok (.invokevirtual 255, 3) := by decide +kernel
theorem dX11_risk_48 : decode cX11_risk 48 = .ok (.iconst 0, 1) := by decide +kernel
theorem dX11_risk_49 : decode cX11_risk 49 = .ok (.istore 5, 2) := by decide +kernel
theorem dX11_risk_51 : decode cX11_risk 51 = .ok (.aload_n 0, 1) := by decide +kernel
theorem dX11_risk_52 : decode cX11_risk 52 = .ok (.getfield 62, 3) := by decide +kernel
theorem dX11_risk_55 : decode cX11_risk 55 = .ok (.getfield 163, 3) := by decide +kernel
theorem dX11_risk_58 : decode cX11_risk 58 = .ok (.getfield 259, 3) := by decide +kernel
theorem dX11_risk_61 : decode cX11_risk 61 = .ok (.iload_n 2, 1) := by decide +kernel
theorem dX11_risk_62 : decode cX11_risk 62 = .ok (.iload_n 3, 1) := by decide +kernel
theorem dX11_risk_63 : decode cX11_risk 63 = .ok (.iadd, 1) := by decide +kernel
theorem dX11_risk_64 : decode cX11_risk 64 = .ok (.invokestatic 262, 3) := by decide +kernel
theorem dX11_risk_67 : decode cX11_risk 67 = .ok (.istore 6, 2) := by decide +kernel
theorem dX11_risk_69 : decode cX11_risk 69 = .ok (.iload_n 2, 1) := by decide +kernel
theorem dX11_risk_70 : decode cX11_risk 70 = .ok (.istore 7, 2) := by decide +kernel
theorem dX11_risk_72 : decode cX11_risk 72 = .ok (.iload 7, 2) := by decide +kernel
theorem dX11_risk_74 : decode cX11_risk 74 = .ok (.iload 6, 2) := by decide +kernel
theorem dX11_risk_76 : decode cX11_risk 76 = .ok (.if_icmp .ge 22, 3) := by decide +kernel
theorem dX11_risk_79 : decode cX11_risk 79 = .ok (.iload 5, 2) := by decide +kernel
theorem dX11_risk_81 : decode cX11_risk 81 = .ok (.aload_n 0, 1) := by decide +kernel
theorem dX11_risk_82 : decode cX11_risk 82 = .ok (.aload 4, 2) := by decide +kernel
theorem dX11_risk_84 : decode cX11_risk 84 = .ok (.iload 7, 2) := by decide +kernel
theorem dX11_risk_86 : decode cX11_risk 86 = .ok (.invokevirtual 265, 3) := by decide +kernel
theorem dX11_risk_89 : decode cX11_risk 89 = .ok (.iadd, 1) := by decide +kernel
theorem dX11_risk_90 : decode cX11_risk 90 = .ok (.istore 5, 2) := by decide +kernel
theorem dX11_risk_92 : decode cX11_risk 92 = .ok (.iinc 7 1, 3) := by decide +kernel
theorem dX11_risk_95 : decode cX11_risk 95 = .ok (.goto (-23), 3) := by decide +kernel
theorem dX11_risk_98 : decode cX11_risk 98 = .ok (.iload 5, 2) := by decide +kernel
theorem dX11_risk_100 : decode cX11_risk 100 = .ok (.ireturn, 1) := by decide +kernel
set_option maxRecDepth 20000 in
theorem ggX11_safest_X6_has : GoodIn wsX11_safest wsX6_has := goodIn_r _ [9, 10, 137, 138, 139, 140, 141, 142] (by decide +kernel) (by decide +kernel)
set_option maxRecDepth 20000 in
theorem gX11_safest_X6_has : GoodIn wsX11_safest (wsV RX11 269 RX6 yX6_has wsX6_has) := goodIn_app (goodIn_of _ (by decide +kernel)) ggX11_safest_X6_has
set_option maxRecDepth 20000 in
theorem ggX11_safest_X11_isClouded : GoodIn wsX11_safest wsX11_isClouded := goodIn_r _ [15, 1, 16, 4, 17, 18, 19, 20, 21, 22, 23, 24, 25, 26, 27, 28, 29, 30, 31, 32, 33, 34, 35, 36, 37, 38, 39, 40, 41, 42, 43, 44, 45, 46, 47, 48, 49, 50, 51, 52, 53, 54, 55, 56, 57, 58, 59, 60, 61, 62, 63, 64, 65, 66, 67, 68, 69, 114, 115, 116, 117, 118, 119, 120, 121, 122, 123, 124, 125, 126, 127, 128, 129, 130, 131, 132, 133, 134, 135, 136, 143, 144, 145, 146, 147, 148, 149, 150, 151, 152, 153, 154, 155, 156, 157, 158, 159, 160, 161, 162] (by decide +kernel) (by decide +kernel)
set_option maxRecDepth 20000 in
theorem gX11_safest_X11_isClouded : GoodIn wsX11_safest (wsV RX11 233 RX11 yX11_isClouded wsX11_isClouded) := goodIn_app (goodIn_of _ (by decide +kernel)) ggX11_safest_X11_isClouded
theorem dX11_safest_0 : decode cX11_safest 0 = .ok (.aload_n 0, 1) := by decide +kernel
theorem dX11_safest_1 : decode cX11_safest 1 = .ok (.getfield 62, 3) := by decide +kernel
theorem dX11_safest_4 : decode cX11_safest 4 = .ok (.getfield 246, 3) := by decide +kernel
theorem dX11_safest_7 : decode cX11_safest 7 = .ok (.iload_n 3, 1) := by decide +kernel
theorem dX11_safest_8 : decode cX11_safest 8 = .ok (.invokevirtual 269, 3) := by decide +kernel
theorem dX11_safest_11 : decode cX11_safest 11 = .ok (.ifCond .eq 12, 3) := by decide +kernel
theorem dX11_safest_14 : decode cX11_safest 14 = .ok (.aload_n 0, 1) := by decide +kernel
theorem dX11_safest_15 : decode cX11_safest 15 = .ok (.iload_n 1, 1) := by decide +kernel
theorem dX11_safest_16 : decode cX11_safest 16 = .ok (.iload_n 2, 1) := by decide +kernel
theorem dX11_safest_17 : decode cX11_safest 17 = .ok (.invokevirtual 233, 3) := by decide +kernel
theorem dX11_safest_20 : decode cX11_safest 20 = .ok (.ifCond .ne 6, 3) := by decide +kernel
theorem dX11_safest_23 : decode cX11_safest 23 = .ok (.bipush (-2), 2) := by decide +kernel
theorem dX11_safest_25 : decode cX11_safest 25 = .ok (.ireturn, 1) := by decide +kernel
theorem dX11_safest_26 : decode cX11_safest 26 = .ok (.iconst 0, 1) := by decide +kernel
theorem dX11_safest_27 : decode cX11_safest 27 = .ok (.istore 4, 2) := by decide +kernel
theorem dX11_safest_29 : decode cX11_safest 29 = .ok (.ldc_w 258, 3) := by decide +kernel
theorem dX11_safest_32 : decode cX11_safest 32 = .ok (.istore 5, 2) := by decide +kernel
theorem dX11_safest_34 : decode cX11_safest 34 = .ok (.iconst 0, 1) := by decide +kernel
theorem dX11_safest_35 : decode cX11_safest 35 = .ok (.istore 6, 2) := by decide +kernel
theorem dX11_safest_37 : decode cX11_safest 37 = .ok (.iload 6, 2) := by decide +kernel
theorem dX11_safest_39 : decode cX11_safest 39 = .ok (.sipush 900, 3) := by decide +kernel
theorem dX11_safest_42 : decode cX11_safest 42 = .ok (.if_icmp .gt 80, 3) := by decide +kernel
theorem dX11_safest_45 : decode cX11_safest 45 = .ok (.iconst 0, 1) := by decide +kernel
theorem dX11_safest_46 : decode cX11_safest 46 = .ok (.istore 7, 2) := by decide +kernel
theorem dX11_safest_48 : decode cX11_safest 48 = .ok (.iload 7, 2) := by decide +kernel
theorem dX11_safest_50 : decode cX11_safest 50 = .ok (.sipush 500, 3) := by decide +kernel
theorem dX11_safest_53 : decode cX11_safest 53 = .ok (.if_icmp .gt 63, 3) := by decide +kernel
theorem dX11_safest_56 : decode cX11_safest 56 = .ok (.aload_n 0, 1) := by decide +kernel
theorem dX11_safest_57 : decode cX11_safest 57 = .ok (.getfield 53, 3) := by decide +kernel
theorem dX11_safest_60 : decode cX11_safest 60 = .ok (.iload_n 3, 1) := by decide +kernel
theorem dX11_safest_61 : decode cX11_safest 61 = .ok (.iload 6, 2) := by decide +kernel
theorem dX11_safest_63 : decode cX11_safest 63 = .ok (.iload 7, 2) := by decide +kernel
theorem dX11_safest_65 : decode cX11_safest 65 = .ok (.invokevirtual 270, 3) := by decide +kernel
theorem dX11_safest_68 : decode cX11_safest 68 = .ok (.aload_n 0, 1) := by decide +kernel
theorem dX11_safest_69 : decode cX11_safest 69 = .ok (.getfield 62, 3) := by decide +kernel
theorem dX11_safest_72 : decode cX11_safest 72 = .ok (.getfield 246, 3) := by decide +kernel
theorem dX11_safest_75 : decode cX11_safest 75 = .ok (.aload_n 0, 1) := by decide +kernel
theorem dX11_safest_76 : decode cX11_safest 76 = .ok (.getfield 53, 3) := by decide +kernel
theorem dX11_safest_79 : decode cX11_safest 79 = .ok (.invokevirtual 243, 3) := by decide +kernel
theorem dX11_safest_82 : decode cX11_safest 82 = .ok (.iload_n 2, 1) := by decide +kernel
theorem dX11_safest_83 : decode cX11_safest 83 = .ok (.invokevirtual 250, 3) := by decide +kernel
theorem dX11_safest_86 : decode cX11_safest 86 = .ok (.istore 8, 2) := by decide +kernel
theorem dX11_safest_88 : decode cX11_safest 88 = .ok (.iload 8, 2) := by decide +kernel
theorem dX11_safest_90 : decode cX11_safest 90 = .ok (.iload 5, 2) := by decide +kernel
theorem dX11_safest_92 : decode cX11_safest 92 = .ok (.if_icmp .ge 18, 3) := by decide +kernel
theorem dX11_safest_95 : decode cX11_safest 95 = .ok (.iload 8, 2) := by decide +kernel
theorem dX11_safest_97 : decode cX11_safest 97 = .ok (.istore 5, 2) := by decide +kernel
theorem dX11_safest_99 : decode cX11_safest 99 = .ok (.sipush 1000, 3) := by decide +kernel
theorem dX11_safest_102 : decode cX11_safest 102 = .ok (.iload 6, 2) := by decide +kernel
theorem dX11_safest_104 : decode cX11_safest 104 = .ok (.imul, 1) := by decide +kernel
theorem dX11_safest_105 : decode cX11_safest 105 = .ok (.iload 7, 2) := by decide +kernel
theorem dX11_safest_107 : decode cX11_safest 107 = .ok (.iadd, 1) := by decide +kernel
theorem dX11_safest_108 : decode cX11_safest 108 = .ok (.istore 4, 2) := by decide +kernel
theorem dX11_safest_110 : decode cX11_safest 110 = .ok (.iinc 7 100, 3) := by decide +kernel
theorem dX11_safest_113 : decode cX11_safest 113 = .ok (.goto (-65), 3) := by decide +kernel
theorem dX11_safest_116 : decode cX11_safest 116 = .ok (.iinc 6 100, 3) := by decide +kernel
theorem dX11_safest_119 : decode cX11_safest 119 = .ok (.goto (-82), 3) := by decide +kernel
theorem dX11_safest_122 : decode cX11_safest 122 = .ok (.iload 4, 2) := by decide +kernel
theorem dX11_safest_124 : decode cX11_safest 124 = .ok (.ireturn, 1) := by decide +kernel
set_option maxRecDepth 20000 in
theorem ggX11_whole_X4_wholeChanges : GoodIn wsX11_whole wsX4_wholeChanges := goodIn_r _ [7, 8, 9, 10, 11, 12, 13, 14, 15, 6, 16, 17, 18, 19, 20, 21, 22, 23, 24, 48, 49, 50, 51, 52, 53, 54, 55, 56, 57, 58] (by decide +kernel) (by decide +kernel)
set_option maxRecDepth 20000 in
theorem gX11_whole_X4_wholeChanges : GoodIn wsX11_whole (wsV RX11 278 RX4 yX4_wholeChanges wsX4_wholeChanges) := goodIn_app (goodIn_of _ (by decide +kernel)) ggX11_whole_X4_wholeChanges
theorem dX11_whole_0 : decode cX11_whole 0 = .ok (.aload_n 0, 1) := by decide +kernel
theorem dX11_whole_1 : decode cX11_whole 1 = .ok (.getfield 62, 3) := by decide +kernel
theorem dX11_whole_4 : decode cX11_whole 4 = .ok (.getfield 274, 3) := by decide +kernel
theorem dX11_whole_7 : decode cX11_whole 7 = .ok (.iconst (-1), 1) := by decide +kernel
theorem dX11_whole_8 : decode cX11_whole 8 = .ok (.invokevirtual 278, 3) := by decide +kernel
theorem dX11_whole_11 : decode cX11_whole 11 = .ok (.ireturn, 1) := by decide +kernel
set_option maxRecDepth 20000 in
theorem ggX11_staying_X4_hasPerson : GoodIn wsX11_staying wsX4_hasPerson := goodIn_r _ [7, 8, 59, 60, 61, 62, 63, 64, 65, 66, 67, 68, 69] (by decide +kernel) (by decide +kernel)
set_option maxRecDepth 20000 in
theorem gX11_staying_X4_hasPerson : GoodIn wsX11_staying (wsV RX11 283 RX4 yX4_hasPerson wsX4_hasPerson) := goodIn_app (goodIn_of _ (by decide +kernel)) ggX11_staying_X4_hasPerson
set_option maxRecDepth 20000 in
theorem ggX11_staying_X4_wholeChanges : GoodIn wsX11_staying wsX4_wholeChanges := goodIn_r _ [12, 13, 14, 15, 16, 17, 18, 19, 20, 6, 21, 8, 22, 23, 24, 25, 26, 27, 28, 59, 60, 61, 62, 63, 64, 65, 66, 67, 68, 69] (by decide +kernel) (by decide +kernel)
set_option maxRecDepth 20000 in
theorem gX11_staying_X4_wholeChanges : GoodIn wsX11_staying (wsV RX11 278 RX4 yX4_wholeChanges wsX4_wholeChanges) := goodIn_app (goodIn_of _ (by decide +kernel)) ggX11_staying_X4_wholeChanges
set_option maxRecDepth 20000 in
theorem ggX11_staying_J6_bitCount_0f7a4 : GoodIn wsX11_staying wsJ6_bitCount_0f7a4 := goodIn_r _ [32, 33, 34, 35] (by decide +kernel) (by decide +kernel)
set_option maxRecDepth 20000 in
theorem gX11_staying_J6_bitCount_0f7a4 : GoodIn wsX11_staying (va_wsS RX11 286 yJ6_bitCount_0f7a4 wsJ6_bitCount_0f7a4) := goodIn_app (goodIn_of _ (by decide +kernel)) ggX11_staying_J6_bitCount_0f7a4
theorem dX11_staying_0 : decode cX11_staying 0 = .ok (.aload_n 0, 1) := by decide +kernel
theorem dX11_staying_1 : decode cX11_staying 1 = .ok (.getfield 62, 3) := by decide +kernel
theorem dX11_staying_4 : decode cX11_staying 4 = .ok (.getfield 274, 3) := by decide +kernel
theorem dX11_staying_7 : decode cX11_staying 7 = .ok (.iload_n 1, 1) := by decide +kernel
theorem dX11_staying_8 : decode cX11_staying 8 = .ok (.invokevirtual 283, 3) := by decide +kernel
theorem dX11_staying_11 : decode cX11_staying 11 = .ok (.ifCond .ne 6, 3) := by decide +kernel
theorem dX11_staying_14 : decode cX11_staying 14 = .ok (.bipush (-2), 2) := by decide +kernel
theorem dX11_staying_16 : decode cX11_staying 16 = .ok (.ireturn, 1) := by decide +kernel
theorem dX11_staying_17 : decode cX11_staying 17 = .ok (.aload_n 0, 1) := by decide +kernel
theorem dX11_staying_18 : decode cX11_staying 18 = .ok (.getfield 62, 3) := by decide +kernel
theorem dX11_staying_21 : decode cX11_staying 21 = .ok (.getfield 274, 3) := by decide +kernel
theorem dX11_staying_24 : decode cX11_staying 24 = .ok (.iload_n 1, 1) := by decide +kernel
theorem dX11_staying_25 : decode cX11_staying 25 = .ok (.invokevirtual 278, 3) := by decide +kernel
theorem dX11_staying_28 : decode cX11_staying 28 = .ok (.invokestatic 286, 3) := by decide +kernel
theorem dX11_staying_31 : decode cX11_staying 31 = .ok (.istore_n 2, 1) := by decide +kernel
theorem dX11_staying_32 : decode cX11_staying 32 = .ok (.iload_n 2, 1) := by decide +kernel
theorem dX11_staying_33 : decode cX11_staying 33 = .ok (.aload_n 0, 1) := by decide +kernel
theorem dX11_staying_34 : decode cX11_staying 34 = .ok (.getfield 62, 3) := by decide +kernel
theorem dX11_staying_37 : decode cX11_staying 37 = .ok (.getfield 274, 3) := by decide +kernel
theorem dX11_staying_40 : decode cX11_staying 40 = .ok (.iconst (-1), 1) := by decide +kernel
theorem dX11_staying_41 : decode cX11_staying 41 = .ok (.invokevirtual 278, 3) := by decide +kernel
theorem dX11_staying_44 : decode cX11_staying 44 = .ok (.invokestatic 286, 3) := by decide +kernel
theorem dX11_staying_47 : decode cX11_staying 47 = .ok (.isub, 1) := by decide +kernel
theorem dX11_staying_48 : decode cX11_staying 48 = .ok (.ireturn, 1) := by decide +kernel
set_option maxRecDepth 20000 in
theorem ggX11_asked_X4_hasChange : GoodIn wsX11_asked wsX4_hasChange := goodIn_r _ [7, 8, 52, 53, 54, 55, 56, 57, 58, 59, 60, 61, 62] (by decide +kernel) (by decide +kernel)
set_option maxRecDepth 20000 in
theorem gX11_asked_X4_hasChange : GoodIn wsX11_asked (wsV RX11 291 RX4 yX4_hasChange wsX4_hasChange) := goodIn_app (goodIn_of _ (by decide +kernel)) ggX11_asked_X4_hasChange
theorem dX11_asked_0 : decode cX11_asked 0 = .ok (.aload_n 0, 1) := by decide +kernel
theorem dX11_asked_1 : decode cX11_asked 1 = .ok (.getfield 62, 3) := by decide +kernel
theorem dX11_asked_4 : decode cX11_asked 4 = .ok (.getfield 274, 3) := by decide +kernel
theorem dX11_asked_7 : decode cX11_asked 7 = .ok (.iload_n 1, 1) := by decide +kernel
theorem dX11_asked_8 : decode cX11_asked 8 = .ok (.invokevirtual 291, 3) := by decide +kernel
theorem dX11_asked_11 : decode cX11_asked 11 = .ok (.ifCond .eq 18, 3) := by decide +kernel
theorem dX11_asked_14 : decode cX11_asked 14 = .ok (.aload_n 0, 1) := by decide +kernel
theorem dX11_asked_15 : decode cX11_asked 15 = .ok (.getfield 62, 3) := by decide +kernel
theorem dX11_asked_18 : decode cX11_asked 18 = .ok (.getfield 274, 3) := by decide +kernel
theorem dX11_asked_21 : decode cX11_asked 21 = .ok (.iload_n 1, 1) := by decide +kernel
theorem dX11_asked_22 : decode cX11_asked 22 = .ok (.iload_n 2, 1) := by decide +kernel
theorem dX11_asked_23 : decode cX11_asked 23 = .ok (.invokevirtual 294, 3) := by decide +kernel
theorem dX11_asked_26 : decode cX11_asked 26 = .ok (.goto 5, 3) := by decide +kernel
theorem dX11_asked_29 : decode cX11_asked 29 = .ok (.bipush (-2), 2) := by decide +kernel
theorem dX11_asked_31 : decode cX11_asked 31 = .ok (.ireturn, 1) := by decide +kernel
set_option maxRecDepth 20000 in
theorem ggX11_who_X4_firstKnowing : GoodIn wsX11_who wsX4_firstKnowing := goodIn_r _ [7, 8, 9, 10, 11, 12, 6, 13, 14, 15, 39, 40, 41, 42, 43, 44, 45, 46, 47, 48, 49] (by decide +kernel) (by decide +kernel)
set_option maxRecDepth 20000 in
theorem gX11_who_X4_firstKnowing : GoodIn wsX11_who (wsV RX11 297 RX4 yX4_firstKnowing wsX4_firstKnowing) := goodIn_app (goodIn_of _ (by decide +kernel)) ggX11_who_X4_firstKnowing
theorem dX11_who_0 : decode cX11_who 0 = .ok (.iload_n 1, 1) := by decide +kernel
theorem dX11_who_1 : decode cX11_who 1 = .ok (.ifCond .lt 19, 3) := by decide +kernel
theorem dX11_who_4 : decode cX11_who 4 = .ok (.iload_n 1, 1) := by decide +kernel
theorem dX11_who_5 : decode cX11_who 5 = .ok (.iconst 3, 1) := by decide +kernel
theorem dX11_who_6 : decode cX11_who 6 = .ok (.if_icmp .gt 14, 3) := by decide +kernel
theorem dX11_who_9 : decode cX11_who 9 = .ok (.iload_n 2, 1) := by decide +kernel
theorem dX11_who_10 : decode cX11_who 10 = .ok (.ifCond .lt 10, 3) := by decide +kernel
theorem dX11_who_13 : decode cX11_who 13 = .ok (.iload_n 2, 1) := by decide +kernel
theorem dX11_who_14 : decode cX11_who 14 = .ok (.sipush 999, 3) := by decide +kernel
theorem dX11_who_17 : decode cX11_who 17 = .ok (.if_icmp .le 6, 3) := by decide +kernel
theorem dX11_who_20 : decode cX11_who 20 = .ok (.bipush (-2), 2) := by decide +kernel
theorem dX11_who_22 : decode cX11_who 22 = .ok (.ireturn, 1) := by decide +kernel
theorem dX11_who_23 : decode cX11_who 23 = .ok (.aload_n 0, 1) := by decide +kernel
theorem dX11_who_24 : decode cX11_who 24 = .ok (.getfield 62, 3) := by decide +kernel
theorem dX11_who_27 : decode cX11_who 27 = .ok (.getfield 274, 3) := by decide +kernel
theorem dX11_who_30 : decode cX11_who 30 = .ok (.iload_n 1, 1) := by decide +kernel
theorem dX11_who_31 : decode cX11_who 31 = .ok (.iload_n 2, 1) := by decide +kernel
theorem dX11_who_32 : decode cX11_who 32 = .ok (.invokevirtual 297, 3) := by decide +kernel
theorem dX11_who_35 : decode cX11_who 35 = .ok (.ireturn, 1) := by decide +kernel
set_option maxRecDepth 20000 in
theorem ggX11_rules_X4_leastRules : GoodIn wsX11_rules wsX4_leastRules := goodIn_r _ [7, 8, 9, 10, 11, 12, 13, 14, 15, 16, 17, 18, 6, 19, 20, 21, 22, 23, 24, 25, 26, 27, 28, 29, 30, 31, 32, 33, 34, 35, 36, 37, 38, 39, 40, 41, 65, 66, 67, 68, 69, 70, 71, 72, 73, 74, 75] (by decide +kernel) (by decide +kernel)
set_option maxRecDepth 20000 in
theorem gX11_rules_X4_leastRules : GoodIn wsX11_rules (wsV RX11 300 RX4 yX4_leastRules wsX4_leastRules) := goodIn_app (goodIn_of _ (by decide +kernel)) ggX11_rules_X4_leastRules
theorem dX11_rules_0 : decode cX11_rules 0 = .ok (.iload_n 1, 1) := by decide +kernel
theorem dX11_rules_1 : decode cX11_rules 1 = .ok (.ifCond .lt 9, 3) := by decide +kernel
theorem dX11_rules_4 : decode cX11_rules 4 = .ok (.iload_n 1, 1) := by decide +kernel
theorem dX11_rules_5 : decode cX11_rules 5 = .ok (.bipush 16, 2) := by decide +kernel
theorem dX11_rules_7 : decode cX11_rules 7 = .ok (.if_icmp .le 8, 3) := by decide +kernel
theorem dX11_rules_10 : decode cX11_rules 10 = .ok (.bipush (-2), 2) := by decide +kernel
theorem dX11_rules_12 : decode cX11_rules 12 = .ok (.goto 14, 3) := by decide +kernel
theorem dX11_rules_15 : decode cX11_rules 15 = .ok (.aload_n 0, 1) := by decide +kernel
theorem dX11_rules_16 : decode cX11_rules 16 = .ok (.getfield 62, 3) := by decide +kernel
theorem dX11_rules_19 : decode cX11_rules 19 = .ok (.getfield 274, 3) := by decide +kernel
theorem dX11_rules_22 : decode cX11_rules 22 = .ok (.iload_n 1, 1) := by decide +kernel
theorem dX11_rules_23 : decode cX11_rules 23 = .ok (.invokevirtual 300, 3) := by decide +kernel
theorem dX11_rules_26 : decode cX11_rules 26 = .ok (.ireturn, 1) := by decide +kernel
set_option maxRecDepth 20000 in
theorem ggX11_held_X4_askedInVain : GoodIn wsX11_held wsX4_askedInVain := goodIn_r _ [8, 9, 10, 11, 39, 40, 41, 42, 43, 44, 45, 46, 47, 48, 49] (by decide +kernel) (by decide +kernel)
set_option maxRecDepth 20000 in
theorem gX11_held_X4_askedInVain : GoodIn wsX11_held (wsV RX11 304 RX4 yX4_askedInVain wsX4_askedInVain) := goodIn_app (goodIn_of _ (by decide +kernel)) ggX11_held_X4_askedInVain
set_option maxRecDepth 20000 in
theorem ggX11_held_X4_askedAll : GoodIn wsX11_held wsX4_askedAll := goodIn_r _ [15, 9, 10, 11, 39, 40, 41, 42, 43, 44, 45, 46, 47, 48, 49] (by decide +kernel) (by decide +kernel)
set_option maxRecDepth 20000 in
theorem gX11_held_X4_askedAll : GoodIn wsX11_held (wsV RX11 307 RX4 yX4_askedAll wsX4_askedAll) := goodIn_app (goodIn_of _ (by decide +kernel)) ggX11_held_X4_askedAll
theorem dX11_held_0 : decode cX11_held 0 = .ok (.iload_n 1, 1) := by decide +kernel
theorem dX11_held_1 : decode cX11_held 1 = .ok (.ifCond .lt 10, 3) := by decide +kernel
theorem dX11_held_4 : decode cX11_held 4 = .ok (.iload_n 1, 1) := by decide +kernel
theorem dX11_held_5 : decode cX11_held 5 = .ok (.ldc_w 303, 3) := by decide +kernel
theorem dX11_held_8 : decode cX11_held 8 = .ok (.if_icmp .le 6, 3) := by decide +kernel
theorem dX11_held_11 : decode cX11_held 11 = .ok (.bipush (-2), 2) := by decide +kernel
theorem dX11_held_13 : decode cX11_held 13 = .ok (.ireturn, 1) := by decide +kernel
theorem dX11_held_14 : decode cX11_held 14 = .ok (.iconst 0, 1) := by decide +kernel
theorem dX11_held_15 : decode cX11_held 15 = .ok (.istore_n 3, 1) := by decide +kernel
theorem dX11_held_16 : decode cX11_held 16 = .ok (.iconst 0, 1) := by decide +kernel
theorem dX11_held_17 : decode cX11_held 17 = .ok (.istore 4, 2) := by decide +kernel
theorem dX11_held_19 : decode cX11_held 19 = .ok (.iload 4, 2) := by decide +kernel
theorem dX11_held_21 : decode cX11_held 21 = .ok (.iconst 4, 1) := by decide +kernel
theorem dX11_held_22 : decode cX11_held 22 = .ok (.if_icmp .ge 58, 3) := by decide +kernel
theorem dX11_held_25 : decode cX11_held 25 = .ok (.iload_n 1, 1) := by decide +kernel
theorem dX11_held_26 : decode cX11_held 26 = .ok (.iconst 4, 1) := by decide +kernel
theorem dX11_held_27 : decode cX11_held 27 = .ok (.iload 4, 2) := by decide +kernel
theorem dX11_held_29 : decode cX11_held 29 = .ok (.imul, 1) := by decide +kernel
theorem dX11_held_30 : decode cX11_held 30 = .ok (.ishr, 1) := by decide +kernel
theorem dX11_held_31 : decode cX11_held 31 = .ok (.bipush 15, 2) := by decide +kernel
theorem dX11_held_33 : decode cX11_held 33 = .ok (.iand, 1) := by decide +kernel
theorem dX11_held_34 : decode cX11_held 34 = .ok (.istore 5, 2) := by decide +kernel
theorem dX11_held_36 : decode cX11_held 36 = .ok (.iload_n 3, 1) := by decide +kernel
theorem dX11_held_37 : decode cX11_held 37 = .ok (.iload_n 2, 1) := by decide +kernel
theorem dX11_held_38 : decode cX11_held 38 = .ok (.ifCond .eq 20, 3) := by decide +kernel
theorem dX11_held_41 : decode cX11_held 41 = .ok (.aload_n 0, 1) := by decide +kernel
theorem dX11_held_42 : decode cX11_held 42 = .ok (.getfield 62, 3) := by decide +kernel
theorem dX11_held_45 : decode cX11_held 45 = .ok (.getfield 274, 3) := by decide +kernel
theorem dX11_held_48 : decode cX11_held 48 = .ok (.iload 4, 2) := by decide +kernel
theorem dX11_held_50 : decode cX11_held 50 = .ok (.iload 5, 2) := by decide +kernel
theorem dX11_held_52 : decode cX11_held 52 = .ok (.invokevirtual 304, 3) := by decide +kernel
theorem dX11_held_55 : decode cX11_held 55 = .ok (.goto 17, 3) := by decide +kernel
theorem dX11_held_58 : decode cX11_held 58 = .ok (.aload_n 0, 1) := by decide +kernel
theorem dX11_held_59 : decode cX11_held 59 = .ok (.getfield 62, 3) := by decide +kernel
theorem dX11_held_62 : decode cX11_held 62 = .ok (.getfield 274, 3) := by decide +kernel
theorem dX11_held_65 : decode cX11_held 65 = .ok (.iload 4, 2) := by decide +kernel
theorem dX11_held_67 : decode cX11_held 67 = .ok (.iload 5, 2) := by decide +kernel
theorem dX11_held_69 : decode cX11_held 69 = .ok (.invokevirtual 307, 3) := by decide +kernel
theorem dX11_held_72 : decode cX11_held 72 = .ok (.iadd, 1) := by decide +kernel
theorem dX11_held_73 : decode cX11_held 73 = .ok (.istore_n 3, 1) := by decide +kernel
theorem dX11_held_74 : decode cX11_held 74 = .ok (.iinc 4 1, 3) := by decide +kernel
theorem dX11_held_77 : decode cX11_held 77 = .ok (.goto (-58), 3) := by decide +kernel
theorem dX11_held_80 : decode cX11_held 80 = .ok (.iload_n 3, 1) := by decide +kernel
theorem dX11_held_81 : decode cX11_held 81 = .ok (.ireturn, 1) := by decide +kernel
set_option maxRecDepth 20000 in
theorem ggX11_count_X11_slotsWithRow : GoodIn wsX11_count wsX11_slotsWithRow := goodIn_r _ [19, 20, 21, 22, 23, 24, 25, 26, 27, 28, 29, 30, 31, 32, 75, 76, 77, 78] (by decide +kernel) (by decide +kernel)
set_option maxRecDepth 20000 in
theorem gX11_count_X11_slotsWithRow : GoodIn wsX11_count (wsV RX11 325 RX11 yX11_slotsWithRow wsX11_slotsWithRow) := goodIn_app (goodIn_of _ (by decide +kernel)) ggX11_count_X11_slotsWithRow
theorem dX11_count_0 : decode cX11_count 0 = .ok (.iload_n 1, 1) := by decide +kernel
theorem dX11_count_1 : decode cX11_count 1 = .ok (.tableswitch 147 0 9 #[55, 63, 71, 82, 93, 104, 115, 126, 134, 142], 55) := by decide +kernel
theorem dX11_count_56 : decode cX11_count 56 = .ok (.aload_n 0, 1) := by decide +kernel
theorem dX11_count_57 : decode cX11_count 57 = .ok (.getfield 62, 3) := by decide +kernel
theorem dX11_count_60 : decode cX11_count 60 = .ok (.getfield 310, 3) := by decide +kernel
theorem dX11_count_63 : decode cX11_count 63 = .ok (.ireturn, 1) := by decide +kernel
theorem dX11_count_64 : decode cX11_count 64 = .ok (.aload_n 0, 1) := by decide +kernel
theorem dX11_count_65 : decode cX11_count 65 = .ok (.getfield 62, 3) := by decide +kernel
theorem dX11_count_68 : decode cX11_count 68 = .ok (.getfield 222, 3) := by decide +kernel
theorem dX11_count_71 : decode cX11_count 71 = .ok (.ireturn, 1) := by decide +kernel
theorem dX11_count_72 : decode cX11_count 72 = .ok (.aload_n 0, 1) := by decide +kernel
theorem dX11_count_73 : decode cX11_count 73 = .ok (.getfield 62, 3) := by decide +kernel
theorem dX11_count_76 : decode cX11_count 76 = .ok (.getfield 163, 3) := by decide +kernel
theorem dX11_count_79 : decode cX11_count 79 = .ok (.getfield 259, 3) := by decide +kernel
theorem dX11_count_82 : decode cX11_count 82 = .ok (.ireturn, 1) := by decide +kernel
theorem dX11_count_83 : decode cX11_count 83 = .ok (.aload_n 0, 1) := by decide +kernel
theorem dX11_count_84 : decode cX11_count 84 = .ok (.getfield 62, 3) := by decide +kernel
theorem dX11_count_87 : decode cX11_count 87 = .ok (.getfield 246, 3) := by decide +kernel
theorem dX11_count_90 : decode cX11_count 90 = .ok (.getfield 313, 3) := by decide +kernel
theorem dX11_count_93 : decode cX11_count 93 = .ok (.ireturn, 1) := by decide +kernel
theorem dX11_count_94 : decode cX11_count 94 = .ok (.aload_n 0, 1) := by decide +kernel
theorem dX11_count_95 : decode cX11_count 95 = .ok (.getfield 62, 3) := by decide +kernel
theorem dX11_count_98 : decode cX11_count 98 = .ok (.getfield 274, 3) := by decide +kernel
theorem dX11_count_101 : decode cX11_count 101 = .ok (.getfield 316, 3) := by decide +kernel
theorem dX11_count_104 : decode cX11_count 104 = .ok (.ireturn, 1) := by decide +kernel
theorem dX11_count_105 : decode cX11_count 105 = .ok (.aload_n 0, 1) := by decide +kernel
theorem dX11_count_106 : decode cX11_count 106 = .ok (.getfield 62, 3) := by decide +kernel
theorem dX11_count_109 : decode cX11_count 109 = .ok (.getfield 274, 3) := by decide +kernel
theorem dX11_count_112 : decode cX11_count 112 = .ok (.getfield 319, 3) := by decide +kernel
theorem dX11_count_115 : decode cX11_count 115 = .ok (.ireturn, 1) := by decide +kernel
theorem dX11_count_116 : decode cX11_count 116 = .ok (.aload_n 0, 1) := by decide +kernel
theorem dX11_count_117 : decode cX11_count 117 = .ok (.getfield 62, 3) := by decide +kernel
theorem dX11_count_120 : decode cX11_count 120 = .ok (.getfield 274, 3) := by decide +kernel
theorem dX11_count_123 : decode cX11_count 123 = .ok (.getfield 322, 3) := by decide +kernel
theorem dX11_count_126 : decode cX11_count 126 = .ok (.ireturn, 1) := by decide +kernel
theorem dX11_count_127 : decode cX11_count 127 = .ok (.aload_n 0, 1) := by decide +kernel
theorem dX11_count_128 : decode cX11_count 128 = .ok (.getfield 62, 3) := by decide +kernel
theorem dX11_count_131 : decode cX11_count 131 = .ok (.getfield 99, 3) := by decide +kernel
theorem dX11_count_134 : decode cX11_count 134 = .ok (.ireturn, 1) := by decide +kernel
theorem dX11_count_135 : decode cX11_count 135 = .ok (.aload_n 0, 1) := by decide +kernel
theorem dX11_count_136 : decode cX11_count 136 = .ok (.getfield 10, 3) := by decide +kernel
theorem dX11_count_139 : decode cX11_count 139 = .ok (.getfield 81, 3) := by decide +kernel
theorem dX11_count_142 : decode cX11_count 142 = .ok (.ireturn, 1) := by decide +kernel
theorem dX11_count_143 : decode cX11_count 143 = .ok (.aload_n 0, 1) := by decide +kernel
theorem dX11_count_144 : decode cX11_count 144 = .ok (.invokevirtual 325, 3) := by decide +kernel
theorem dX11_count_147 : decode cX11_count 147 = .ok (.ireturn, 1) := by decide +kernel
theorem dX11_count_148 : decode cX11_count 148 = .ok (.iconst (-1), 1) := by decide +kernel
theorem dX11_count_149 : decode cX11_count 149 = .ok (.ireturn, 1) := by decide +kernel
set_option maxRecDepth 20000 in
theorem ggX11_judge_X11_slotAt : GoodIn wsX11_judge wsX11_slotAt := goodIn_r _ [9, 10, 47, 48, 49, 50, 51, 52, 53, 54, 55, 56, 57] (by decide +kernel) (by decide +kernel)
set_option maxRecDepth 20000 in
theorem gX11_judge_X11_slotAt : GoodIn wsX11_judge (wsV RX11 207 RX11 yX11_slotAt wsX11_slotAt) := goodIn_app (goodIn_of _ (by decide +kernel)) ggX11_judge_X11_slotAt
set_option maxRecDepth 20000 in
theorem ggX11_judge_X1_has : GoodIn wsX11_judge wsX1_has := goodIn_r _ [15, 16, 70, 71, 72, 73, 74] (by decide +kernel) (by decide +kernel)
set_option maxRecDepth 20000 in
theorem gX11_judge_X1_has : GoodIn wsX11_judge (wsV RX11 166 RX1 yX1_has wsX1_has) := goodIn_app (goodIn_of _ (by decide +kernel)) ggX11_judge_X1_has
theorem dX11_judge_0 : decode cX11_judge 0 = .ok (.aload_n 0, 1) := by decide +kernel
theorem dX11_judge_1 : decode cX11_judge 1 = .ok (.iload_n 1, 1) := by decide +kernel
theorem dX11_judge_2 : decode cX11_judge 2 = .ok (.invokevirtual 207, 3) := by decide +kernel
theorem dX11_judge_5 : decode cX11_judge 5 = .ok (.astore_n 2, 1) := by decide +kernel
theorem dX11_judge_6 : decode cX11_judge 6 = .ok (.aload_n 2, 1) := by decide +kernel
theorem dX11_judge_7 : decode cX11_judge 7 = .ok (.ifnonnull 6, 3) := by decide +kernel
theorem dX11_judge_10 : decode cX11_judge 10 = .ok (.bipush (-2), 2) := by decide +kernel
theorem dX11_judge_12 : decode cX11_judge 12 = .ok (.ireturn, 1) := by decide +kernel
theorem dX11_judge_13 : decode cX11_judge 13 = .ok (.aload_n 2, 1) := by decide +kernel
theorem dX11_judge_14 : decode cX11_judge 14 = .ok (.getfield 211, 3) := by decide +kernel
theorem dX11_judge_17 : decode cX11_judge 17 = .ok (.ifCond .ne 6, 3) := by decide +kernel
theorem dX11_judge_20 : decode cX11_judge 20 = .ok (.bipush (-6), 2) := by decide +kernel
theorem dX11_judge_22 : decode cX11_judge 22 = .ok (.ireturn, 1) := by decide +kernel
theorem dX11_judge_23 : decode cX11_judge 23 = .ok (.iconst 0, 1) := by decide +kernel
theorem dX11_judge_24 : decode cX11_judge 24 = .ok (.istore_n 3, 1) := by decide +kernel
theorem dX11_judge_25 : decode cX11_judge 25 = .ok (.iload_n 3, 1) := by decide +kernel
theorem dX11_judge_26 : decode cX11_judge 26 = .ok (.aload_n 2, 1) := by decide +kernel
theorem dX11_judge_27 : decode cX11_judge 27 = .ok (.getfield 328, 3) := by decide +kernel
theorem dX11_judge_30 : decode cX11_judge 30 = .ok (.if_icmp .ge 44, 3) := by decide +kernel
theorem dX11_judge_33 : decode cX11_judge 33 = .ok (.aload_n 0, 1) := by decide +kernel
theorem dX11_judge_34 : decode cX11_judge 34 = .ok (.getfield 62, 3) := by decide +kernel
theorem dX11_judge_37 : decode cX11_judge 37 = .ok (.getfield 163, 3) := by decide +kernel
theorem dX11_judge_40 : decode cX11_judge 40 = .ok (.iload_n 3, 1) := by decide +kernel
theorem dX11_judge_41 : decode cX11_judge 41 = .ok (.invokevirtual 166, 3) := by decide +kernel
theorem dX11_judge_44 : decode cX11_judge 44 = .ok (.ifCond .eq 30, 3) := by decide +kernel
theorem dX11_judge_47 : decode cX11_judge 47 = .ok (.aload_n 2, 1) := by decide +kernel
theorem dX11_judge_48 : decode cX11_judge 48 = .ok (.iload_n 3, 1) := by decide +kernel
theorem dX11_judge_49 : decode cX11_judge 49 = .ok (.invokevirtual 329, 3) := by decide +kernel
theorem dX11_judge_52 : decode cX11_judge 52 = .ok (.aload_n 0, 1) := by decide +kernel
theorem dX11_judge_53 : decode cX11_judge 53 = .ok (.getfield 62, 3) := by decide +kernel
theorem dX11_judge_56 : decode cX11_judge 56 = .ok (.getfield 163, 3) := by decide +kernel
theorem dX11_judge_59 : decode cX11_judge 59 = .ok (.iload_n 3, 1) := by decide +kernel
theorem dX11_judge_60 : decode cX11_judge 60 = .ok (.invokevirtual 169, 3) := by decide +kernel
theorem dX11_judge_63 : decode cX11_judge 63 = .ok (.i2l, 1) := by decide +kernel
theorem dX11_judge_64 : decode cX11_judge 64 = .ok (.lcmp, 1) := by decide +kernel
theorem dX11_judge_65 : decode cX11_judge 65 = .ok (.ifCond .ne 9, 3) := by decide +kernel
theorem dX11_judge_68 : decode cX11_judge 68 = .ok (.iinc 3 1, 3) := by decide +kernel
theorem dX11_judge_71 : decode cX11_judge 71 = .ok (.goto (-46), 3) := by decide +kernel
theorem dX11_judge_74 : decode cX11_judge 74 = .ok (.iload_n 3, 1) := by decide +kernel
theorem dX11_judge_75 : decode cX11_judge 75 = .ok (.ireturn, 1) := by decide +kernel
set_option maxRecDepth 20000 in
theorem ggX11_other_X11_slotAt : GoodIn wsX11_other wsX11_slotAt := goodIn_r _ [8, 9, 121, 122, 123, 124, 125, 126, 127, 128, 129, 130, 131] (by decide +kernel) (by decide +kernel)
set_option maxRecDepth 20000 in
theorem gX11_other_X11_slotAt : GoodIn wsX11_other (wsV RX11 207 RX11 yX11_slotAt wsX11_slotAt) := goodIn_app (goodIn_of _ (by decide +kernel)) ggX11_other_X11_slotAt
set_option maxRecDepth 20000 in
theorem ggX11_other_X11_isStrained : GoodIn wsX11_other wsX11_isStrained := goodIn_r _ [13, 14, 3, 15, 16, 17, 18, 19, 20, 21, 22, 23, 24, 25, 26, 27, 28, 29, 30, 31, 32, 33, 34, 35, 36, 37, 38, 39, 40, 41, 42, 43, 44, 45, 46, 47, 121, 122, 123, 124, 125, 126, 127, 128, 129, 130, 131, 132, 133, 134, 135, 136, 137, 138, 139, 140, 141, 142, 143, 144, 145, 146, 147, 148, 149, 150, 151, 152, 153, 154, 155, 156, 157, 158, 159, 160, 161, 162, 163, 164, 165, 166, 167] (by decide +kernel) (by decide +kernel)
set_option maxRecDepth 20000 in
theorem gX11_other_X11_isStrained : GoodIn wsX11_other (wsV RX11 145 RX11 yX11_isStrained wsX11_isStrained) := goodIn_app (goodIn_of _ (by decide +kernel)) ggX11_other_X11_isStrained
theorem dX11_other_0 : decode cX11_other 0 = .ok (.aload_n 0, 1) := by decide +kernel
theorem dX11_other_1 : decode cX11_other 1 = .ok (.iload_n 1, 1) := by decide +kernel
theorem dX11_other_2 : decode cX11_other 2 = .ok (.invokevirtual 207, 3) := by decide +kernel
theorem dX11_other_5 : decode cX11_other 5 = .ok (.astore_n 3, 1) := by decide +kernel
theorem dX11_other_6 : decode cX11_other 6 = .ok (.aload_n 3, 1) := by decide +kernel
theorem dX11_other_7 : decode cX11_other 7 = .ok (.ifnull 11, 3) := by decide +kernel
theorem dX11_other_10 : decode cX11_other 10 = .ok (.aload_n 0, 1) := by decide +kernel
theorem dX11_other_11 : decode cX11_other 11 = .ok (.iload_n 2, 1) := by decide +kernel
theorem dX11_other_12 : decode cX11_other 12 = .ok (.invokevirtual 145, 3) := by decide +kernel
theorem dX11_other_15 : decode cX11_other 15 = .ok (.ifCond .ne 6, 3) := by decide +kernel
theorem dX11_other_18 : decode cX11_other 18 = .ok (.bipush (-2), 2) := by decide +kernel
theorem dX11_other_20 : decode cX11_other 20 = .ok (.ireturn, 1) := by decide +kernel
theorem dX11_other_21 : decode cX11_other 21 = .ok (.aload_n 3, 1) := by decide +kernel
theorem dX11_other_22 : decode cX11_other 22 = .ok (.getfield 211, 3) := by decide +kernel
theorem dX11_other_25 : decode cX11_other 25 = .ok (.ifCond .ne 6, 3) := by decide +kernel
theorem dX11_other_28 : decode cX11_other 28 = .ok (.bipush (-6), 2) := by decide +kernel
theorem dX11_other_30 : decode cX11_other 30 = .ok (.ireturn, 1) := by decide +kernel
theorem dX11_other_31 : decode cX11_other 31 = .ok (.aload_n 0, 1) := by decide +kernel
theorem dX11_other_32 : decode cX11_other 32 = .ok (.getfield 39, 3) := by decide +kernel
theorem dX11_other_35 : decode cX11_other 35 = .ok (.aload_n 3, 1) := by decide +kernel
theorem dX11_other_36 : decode cX11_other 36 = .ok (.invokevirtual 332, 3) := by decide +kernel
theorem dX11_other_39 : decode cX11_other 39 = .ok (.aload_n 0, 1) := by decide +kernel
theorem dX11_other_40 : decode cX11_other 40 = .ok (.getfield 32, 3) := by decide +kernel
theorem dX11_other_43 : decode cX11_other 43 = .ok (.aload_n 0, 1) := by decide +kernel
theorem dX11_other_44 : decode cX11_other 44 = .ok (.getfield 39, 3) := by decide +kernel
theorem dX11_other_47 : decode cX11_other 47 = .ok (.invokevirtual 176, 3) := by decide +kernel
theorem dX11_other_50 : decode cX11_other 50 = .ok (.ireturn, 1) := by decide +kernel
theorem dX11_keep_0 : decode cX11_keep 0 = .ok (.iload_n 1, 1) := by decide +kernel
theorem dX11_keep_1 : decode cX11_keep 1 = .ok (.ifCond .lt 12, 3) := by decide +kernel
theorem dX11_keep_4 : decode cX11_keep 4 = .ok (.iload_n 1, 1) := by decide +kernel
theorem dX11_keep_5 : decode cX11_keep 5 = .ok (.aload_n 0, 1) := by decide +kernel
theorem dX11_keep_6 : decode cX11_keep 6 = .ok (.getfield 18, 3) := by decide +kernel
theorem dX11_keep_9 : decode cX11_keep 9 = .ok (.arraylength, 1) := by decide +kernel
theorem dX11_keep_10 : decode cX11_keep 10 = .ok (.if_icmp .lt 6, 3) := by decide +kernel
theorem dX11_keep_13 : decode cX11_keep 13 = .ok (.bipush (-2), 2) := by decide +kernel
theorem dX11_keep_15 : decode cX11_keep 15 = .ok (.ireturn, 1) := by decide +kernel
theorem dX11_keep_16 : decode cX11_keep 16 = .ok (.aload_n 0, 1) := by decide +kernel
theorem dX11_keep_17 : decode cX11_keep 17 = .ok (.getfield 18, 3) := by decide +kernel
theorem dX11_keep_20 : decode cX11_keep 20 = .ok (.iload_n 1, 1) := by decide +kernel
theorem dX11_keep_21 : decode cX11_keep 21 = .ok (.aload_n 0, 1) := by decide +kernel
theorem dX11_keep_22 : decode cX11_keep 22 = .ok (.getfield 62, 3) := by decide +kernel
theorem dX11_keep_25 : decode cX11_keep 25 = .ok (.aastore, 1) := by decide +kernel
theorem dX11_keep_26 : decode cX11_keep 26 = .ok (.iconst 0, 1) := by decide +kernel
theorem dX11_keep_27 : decode cX11_keep 27 = .ok (.ireturn, 1) := by decide +kernel
theorem dX11_back_0 : decode cX11_back 0 = .ok (.iload_n 1, 1) := by decide +kernel
theorem dX11_back_1 : decode cX11_back 1 = .ok (.ifCond .lt 12, 3) := by decide +kernel
theorem dX11_back_4 : decode cX11_back 4 = .ok (.iload_n 1, 1) := by decide +kernel
theorem dX11_back_5 : decode cX11_back 5 = .ok (.aload_n 0, 1) := by decide +kernel
theorem dX11_back_6 : decode cX11_back 6 = .ok (.getfield 18, 3) := by decide +kernel
theorem dX11_back_9 : decode cX11_back 9 = .ok (.arraylength, 1) := by decide +kernel
theorem dX11_back_10 : decode cX11_back 10 = .ok (.if_icmp .lt 6, 3) := by decide +kernel
theorem dX11_back_13 : decode cX11_back 13 = .ok (.bipush (-2), 2) := by decide +kernel
theorem dX11_back_15 : decode cX11_back 15 = .ok (.ireturn, 1) := by decide +kernel
theorem dX11_back_16 : decode cX11_back 16 = .ok (.aload_n 0, 1) := by decide +kernel
theorem dX11_back_17 : decode cX11_back 17 = .ok (.getfield 18, 3) := by decide +kernel
theorem dX11_back_20 : decode cX11_back 20 = .ok (.iload_n 1, 1) := by decide +kernel
theorem dX11_back_21 : decode cX11_back 21 = .ok (.aaload, 1) := by decide +kernel
theorem dX11_back_22 : decode cX11_back 22 = .ok (.astore_n 2, 1) := by decide +kernel
theorem dX11_back_23 : decode cX11_back 23 = .ok (.aload_n 2, 1) := by decide +kernel
theorem dX11_back_24 : decode cX11_back 24 = .ok (.ifnonnull 6, 3) := by decide +kernel
theorem dX11_back_27 : decode cX11_back 27 = .ok (.bipush (-6), 2) := by decide +kernel
theorem dX11_back_29 : decode cX11_back 29 = .ok (.ireturn, 1) := by decide +kernel
theorem dX11_back_30 : decode cX11_back 30 = .ok (.aload_n 0, 1) := by decide +kernel
theorem dX11_back_31 : decode cX11_back 31 = .ok (.aload_n 2, 1) := by decide +kernel
theorem dX11_back_32 : decode cX11_back 32 = .ok (.putfield 62, 3) := by decide +kernel
theorem dX11_back_35 : decode cX11_back 35 = .ok (.iconst 0, 1) := by decide +kernel
theorem dX11_back_36 : decode cX11_back 36 = .ok (.ireturn, 1) := by decide +kernel
set_option maxRecDepth 20000 in
theorem ggX11_row_X11_slotAt : GoodIn wsX11_row wsX11_slotAt := goodIn_r _ [5, 6, 23, 24, 25, 26, 27, 28, 29, 30, 31, 32, 33] (by decide +kernel) (by decide +kernel)
set_option maxRecDepth 20000 in
theorem gX11_row_X11_slotAt : GoodIn wsX11_row (wsV RX11 207 RX11 yX11_slotAt wsX11_slotAt) := goodIn_app (goodIn_of _ (by decide +kernel)) ggX11_row_X11_slotAt
set_option maxRecDepth 20000 in
theorem ggX11_row_X7_begin : GoodIn wsX11_row wsX7_begin := goodIn_r _ [11, 12, 13, 14, 15, 16, 17, 18, 19, 20, 21, 22, 34, 35, 36, 37] (by decide +kernel) (by decide +kernel)
set_option maxRecDepth 20000 in
theorem gX11_row_X7_begin : GoodIn wsX11_row (wsV RX11 336 RX7 yX7_begin wsX7_begin) := goodIn_app (goodIn_of _ (by decide +kernel)) ggX11_row_X7_begin
theorem dX11_row_0 : decode cX11_row 0 = .ok (.aload_n 0, 1) := by decide +kernel
theorem dX11_row_1 : decode cX11_row 1 = .ok (.iload_n 1, 1) := by decide +kernel
theorem dX11_row_2 : decode cX11_row 2 = .ok (.invokevirtual 207, 3) := by decide +kernel
theorem dX11_row_5 : decode cX11_row 5 = .ok (.astore 4, 2) := by decide +kernel
theorem dX11_row_7 : decode cX11_row 7 = .ok (.aload 4, 2) := by decide +kernel
theorem dX11_row_9 : decode cX11_row 9 = .ok (.ifnull 18, 3) := by decide +kernel
theorem dX11_row_12 : decode cX11_row 12 = .ok (.iload_n 2, 1) := by decide +kernel
theorem dX11_row_13 : decode cX11_row 13 = .ok (.ifCond .lt 14, 3) := by decide +kernel
theorem dX11_row_16 : decode cX11_row 16 = .ok (.iload_n 2, 1) := by decide +kernel
theorem dX11_row_17 : decode cX11_row 17 = .ok (.iconst 3, 1) := by decide +kernel
theorem dX11_row_18 : decode cX11_row 18 = .ok (.if_icmp .gt 9, 3) := by decide +kernel
theorem dX11_row_21 : decode cX11_row 21 = .ok (.iload_n 3, 1) := by decide +kernel
theorem dX11_row_22 : decode cX11_row 22 = .ok (.bipush 60, 2) := by decide +kernel
theorem dX11_row_24 : decode cX11_row 24 = .ok (.if_icmp .le 6, 3) := by decide +kernel
theorem dX11_row_27 : decode cX11_row 27 = .ok (.bipush (-2), 2) := by decide +kernel
theorem dX11_row_29 : decode cX11_row 29 = .ok (.ireturn, 1) := by decide +kernel
theorem dX11_row_30 : decode cX11_row 30 = .ok (.iload_n 3, 1) := by decide +kernel
theorem dX11_row_31 : decode cX11_row 31 = .ok (.ifCond .ge 6, 3) := by decide +kernel
theorem dX11_row_34 : decode cX11_row 34 = .ok (.bipush (-3), 2) := by decide +kernel
theorem dX11_row_36 : decode cX11_row 36 = .ok (.ireturn, 1) := by decide +kernel
theorem dX11_row_37 : decode cX11_row 37 = .ok (.aload 4, 2) := by decide +kernel
theorem dX11_row_39 : decode cX11_row 39 = .ok (.iload_n 2, 1) := by decide +kernel
theorem dX11_row_40 : decode cX11_row 40 = .ok (.iload_n 3, 1) := by decide +kernel
theorem dX11_row_41 : decode cX11_row 41 = .ok (.invokevirtual 336, 3) := by decide +kernel
theorem dX11_row_44 : decode cX11_row 44 = .ok (.iconst 0, 1) := by decide +kernel
theorem dX11_row_45 : decode cX11_row 45 = .ok (.ireturn, 1) := by decide +kernel
set_option maxRecDepth 20000 in
theorem ggX11_write_X11_slotAt : GoodIn wsX11_write wsX11_slotAt := goodIn_r _ [7, 8, 24, 25, 26, 27, 28, 29, 30, 31, 32, 33, 34] (by decide +kernel) (by decide +kernel)
set_option maxRecDepth 20000 in
theorem gX11_write_X11_slotAt : GoodIn wsX11_write (wsV RX11 207 RX11 yX11_slotAt wsX11_slotAt) := goodIn_app (goodIn_of _ (by decide +kernel)) ggX11_write_X11_slotAt
theorem dX11_write_0 : decode cX11_write 0 = .ok (.aload_n 0, 1) := by decide +kernel
theorem dX11_write_1 : decode cX11_write 1 = .ok (.iload_n 1, 1) := by decide +kernel
theorem dX11_write_2 : decode cX11_write 2 = .ok (.invokevirtual 207, 3) := by decide +kernel
theorem dX11_write_5 : decode cX11_write 5 = .ok (.astore 5, 2) := by decide +kernel
theorem dX11_write_7 : decode cX11_write 7 = .ok (.aload 5, 2) := by decide +kernel
theorem dX11_write_9 : decode cX11_write 9 = .ok (.ifnonnull 6, 3) := by decide +kernel
theorem dX11_write_12 : decode cX11_write 12 = .ok (.bipush (-2), 2) := by decide +kernel
theorem dX11_write_14 : decode cX11_write 14 = .ok (.ireturn, 1) := by decide +kernel
theorem dX11_write_15 : decode cX11_write 15 = .ok (.aload 5, 2) := by decide +kernel
theorem dX11_write_17 : decode cX11_write 17 = .ok (.getfield 211, 3) := by decide +kernel
theorem dX11_write_20 : decode cX11_write 20 = .ok (.ifCond .ne 6, 3) := by decide +kernel
theorem dX11_write_23 : decode cX11_write 23 = .ok (.bipush (-6), 2) := by decide +kernel
theorem dX11_write_25 : decode cX11_write 25 = .ok (.ireturn, 1) := by decide +kernel
theorem dX11_write_26 : decode cX11_write 26 = .ok (.iload_n 2, 1) := by decide +kernel
theorem dX11_write_27 : decode cX11_write 27 = .ok (.ifCond .lt 12, 3) := by decide +kernel
theorem dX11_write_30 : decode cX11_write 30 = .ok (.iload_n 2, 1) := by decide +kernel
theorem dX11_write_31 : decode cX11_write 31 = .ok (.aload 5, 2) := by decide +kernel
theorem dX11_write_33 : decode cX11_write 33 = .ok (.getfield 328, 3) := by decide +kernel
theorem dX11_write_36 : decode cX11_write 36 = .ok (.if_icmp .lt 6, 3) := by decide +kernel
theorem dX11_write_39 : decode cX11_write 39 = .ok (.bipush (-7), 2) := by decide +kernel
theorem dX11_write_41 : decode cX11_write 41 = .ok (.ireturn, 1) := by decide +kernel
theorem dX11_write_42 : decode cX11_write 42 = .ok (.aload 5, 2) := by decide +kernel
theorem dX11_write_44 : decode cX11_write 44 = .ok (.iload_n 2, 1) := by decide +kernel
theorem dX11_write_45 : decode cX11_write 45 = .ok (.lload_n 3, 1) := by decide +kernel
theorem dX11_write_46 : decode cX11_write 46 = .ok (.invokevirtual 340, 3) := by decide +kernel
theorem dX11_write_49 : decode cX11_write 49 = .ok (.iconst 0, 1) := by decide +kernel
theorem dX11_write_50 : decode cX11_write 50 = .ok (.ireturn, 1) := by decide +kernel
set_option maxRecDepth 20000 in
theorem ggX11_paste_X11_slotAt : GoodIn wsX11_paste wsX11_slotAt := goodIn_r _ [12, 13, 24, 25, 26, 27, 28, 29, 30, 31, 32, 33, 34] (by decide +kernel) (by decide +kernel)
set_option maxRecDepth 20000 in
theorem gX11_paste_X11_slotAt : GoodIn wsX11_paste (wsV RX11 207 RX11 yX11_slotAt wsX11_slotAt) := goodIn_app (goodIn_of _ (by decide +kernel)) ggX11_paste_X11_slotAt
theorem dX11_paste_0 : decode cX11_paste 0 = .ok (.aload_n 0, 1) := by decide +kernel
theorem dX11_paste_1 : decode cX11_paste 1 = .ok (.iload_n 1, 1) := by decide +kernel
theorem dX11_paste_2 : decode cX11_paste 2 = .ok (.invokevirtual 207, 3) := by decide +kernel
theorem dX11_paste_5 : decode cX11_paste 5 = .ok (.astore 6, 2) := by decide +kernel
theorem dX11_paste_7 : decode cX11_paste 7 = .ok (.aload_n 0, 1) := by decide +kernel
theorem dX11_paste_8 : decode cX11_paste 8 = .ok (.iload_n 3, 1) := by decide +kernel
theorem dX11_paste_9 : decode cX11_paste 9 = .ok (.invokevirtual 207, 3) := by decide +kernel
theorem dX11_paste_12 : decode cX11_paste 12 = .ok (.astore 7, 2) := by decide +kernel
theorem dX11_paste_14 : decode cX11_paste 14 = .ok (.aload 6, 2) := by decide +kernel
theorem dX11_paste_16 : decode cX11_paste 16 = .ok (.ifnull 8, 3) := by decide +kernel
theorem dX11_paste_19 : decode cX11_paste 19 = .ok (.aload 7, 2) := by decide +kernel
theorem dX11_paste_21 : decode cX11_paste 21 = .ok (.ifnonnull 6, 3) := by decide +kernel
theorem dX11_paste_24 : decode cX11_paste 24 = .ok (.bipush (-2), 2) := by decide +kernel
theorem dX11_paste_26 : decode cX11_paste 26 = .ok (.ireturn, 1) := by decide +kernel
theorem dX11_paste_27 : decode cX11_paste 27 = .ok (.aload 6, 2) := by decide +kernel
theorem dX11_paste_29 : decode cX11_paste 29 = .ok (.getfield 211, 3) := by decide +kernel
theorem dX11_paste_32 : decode cX11_paste 32 = .ok (.ifCond .eq 11, 3) := by decide +kernel
theorem dX11_paste_35 : decode cX11_paste 35 = .ok (.aload 7, 2) := by decide +kernel
theorem dX11_paste_37 : decode cX11_paste 37 = .ok (.getfield 211, 3) := by decide +kernel
theorem dX11_paste_40 : decode cX11_paste 40 = .ok (.ifCond .ne 6, 3) := by decide +kernel
theorem dX11_paste_43 : decode cX11_paste 43 = .ok (.bipush (-6), 2) := by decide +kernel
theorem dX11_paste_45 : decode cX11_paste 45 = .ok (.ireturn, 1) := by decide +kernel
theorem dX11_paste_46 : decode cX11_paste 46 = .ok (.aload 6, 2) := by decide +kernel
theorem dX11_paste_48 : decode cX11_paste 48 = .ok (.getfield 344, 3) := by decide +kernel
theorem dX11_paste_51 : decode cX11_paste 51 = .ok (.aload 7, 2) := by decide +kernel
theorem dX11_paste_53 : decode cX11_paste 53 = .ok (.getfield 344, 3) := by decide +kernel
theorem dX11_paste_56 : decode cX11_paste 56 = .ok (.if_icmp .eq 6, 3) := by decide +kernel
theorem dX11_paste_59 : decode cX11_paste 59 = .ok (.bipush (-8), 2) := by decide +kernel
theorem dX11_paste_61 : decode cX11_paste 61 = .ok (.ireturn, 1) := by decide +kernel
theorem dX11_paste_62 : decode cX11_paste 62 = .ok (.aload 6, 2) := by decide +kernel
theorem dX11_paste_64 : decode cX11_paste 64 = .ok (.iload_n 2, 1) := by decide +kernel
theorem dX11_paste_65 : decode cX11_paste 65 = .ok (.iload 5, 2) := by decide +kernel
theorem dX11_paste_67 : decode cX11_paste 67 = .ok (.invokevirtual 347, 3) := by decide +kernel
theorem dX11_paste_70 : decode cX11_paste 70 = .ok (.ifCond .eq 15, 3) := by decide +kernel
theorem dX11_paste_73 : decode cX11_paste 73 = .ok (.aload 7, 2) := by decide +kernel
theorem dX11_paste_75 : decode cX11_paste 75 = .ok (.iload 4, 2) := by decide +kernel
theorem dX11_paste_77 : decode cX11_paste 77 = .ok (.iload 5, 2) := by decide +kernel
theorem dX11_paste_79 : decode cX11_paste 79 = .ok (.invokevirtual 347, 3) := by decide +kernel
theorem dX11_paste_82 : decode cX11_paste 82 = .ok (.ifCond .ne 6, 3) := by decide +kernel
theorem dX11_paste_85 : decode cX11_paste 85 = .ok (.bipush (-7), 2) := by decide +kernel
theorem dX11_paste_87 : decode cX11_paste 87 = .ok (.ireturn, 1) := by decide +kernel
theorem dX11_paste_88 : decode cX11_paste 88 = .ok (.aload 6, 2) := by decide +kernel
theorem dX11_paste_90 : decode cX11_paste 90 = .ok (.getfield 350, 3) := by decide +kernel
theorem dX11_paste_93 : decode cX11_paste 93 = .ok (.iload_n 2, 1) := by decide +kernel
theorem dX11_paste_94 : decode cX11_paste 94 = .ok (.aload 7, 2) := by decide +kernel
theorem dX11_paste_96 : decode cX11_paste 96 = .ok (.getfield 350, 3) := by decide +kernel
theorem dX11_paste_99 : decode cX11_paste 99 = .ok (.iload 4, 2) := by decide +kernel
theorem dX11_paste_101 : decode cX11_paste 101 = .ok (.iload 5, 2) := by decide +kernel
theorem dX11_paste_103 : decode cX11_paste 103 = .ok (.invokestatic 354, 3) := by decide +kernel
theorem dX11_paste_106 : decode cX11_paste 106 = .ok (.iconst 0, 1) := by decide +kernel
theorem dX11_paste_107 : decode cX11_paste 107 = .ok (.ireturn, 1) := by decide +kernel
theorem dX11_isPress_0 : decode cX11_isPress 0 = .ok (.iload_n 0, 1) := by decide +kernel
theorem dX11_isPress_1 : decode cX11_isPress 1 = .ok (.ifCond .lt 14, 3) := by decide +kernel
theorem dX11_isPress_4 : decode cX11_isPress 4 = .ok (.iload_n 0, 1) := by decide +kernel
theorem dX11_isPress_5 : decode cX11_isPress 5 = .ok (.sipush 999, 3) := by decide +kernel
theorem dX11_isPress_8 : decode cX11_isPress 8 = .ok (.if_icmp .gt 7, 3) := by decide +kernel
theorem dX11_isPress_11 : decode cX11_isPress 11 = .ok (.iconst 1, 1) := by decide +kernel
theorem dX11_isPress_12 : decode cX11_isPress 12 = .ok (.goto 4, 3) := by decide +kernel
theorem dX11_isPress_15 : decode cX11_isPress 15 = .ok (.iconst 0, 1) := by decide +kernel
theorem dX11_isPress_16 : decode cX11_isPress 16 = .ok (.ireturn, 1) := by decide +kernel
set_option maxRecDepth 20000 in
theorem ggX11_isStrained_X10_pipeAt : GoodIn wsX11_isStrained wsX10_pipeAt := goodIn_r _ [9, 10, 11, 54, 55, 56, 57, 58, 59, 60, 61, 62, 63, 64, 65] (by decide +kernel) (by decide +kernel)
set_option maxRecDepth 20000 in
theorem gX11_isStrained_X10_pipeAt : GoodIn wsX11_isStrained (wsV RX11 110 RX10 yX10_pipeAt wsX10_pipeAt) := goodIn_app (goodIn_of _ (by decide +kernel)) ggX11_isStrained_X10_pipeAt
theorem dX11_isStrained_0 : decode cX11_isStrained 0 = .ok (.aload_n 0, 1) := by decide +kernel
theorem dX11_isStrained_1 : decode cX11_isStrained 1 = .ok (.getfield 62, 3) := by decide +kernel
theorem dX11_isStrained_4 : decode cX11_isStrained 4 = .ok (.iload_n 1, 1) := by decide +kernel
theorem dX11_isStrained_5 : decode cX11_isStrained 5 = .ok (.invokevirtual 110, 3) := by decide +kernel
theorem dX11_isStrained_8 : decode cX11_isStrained 8 = .ok (.astore_n 2, 1) := by decide +kernel
theorem dX11_isStrained_9 : decode cX11_isStrained 9 = .ok (.aload_n 2, 1) := by decide +kernel
theorem dX11_isStrained_10 : decode cX11_isStrained 10 = .ok (.ifnonnull 5, 3) := by decide +kernel
theorem dX11_isStrained_13 : decode cX11_isStrained 13 = .ok (.iconst 0, 1) := by decide +kernel
theorem dX11_isStrained_14 : decode cX11_isStrained 14 = .ok (.ireturn, 1) := by decide +kernel
theorem dX11_isStrained_15 : decode cX11_isStrained 15 = .ok (.aload_n 0, 1) := by decide +kernel
theorem dX11_isStrained_16 : decode cX11_isStrained 16 = .ok (.getfield 32, 3) := by decide +kernel
theorem dX11_isStrained_19 : decode cX11_isStrained 19 = .ok (.aload_n 2, 1) := by decide +kernel
theorem dX11_isStrained_20 : decode cX11_isStrained 20 = .ok (.aload_n 2, 1) := by decide +kernel
theorem dX11_isStrained_21 : decode cX11_isStrained 21 = .ok (.getfield 131, 3) := by decide +kernel
theorem dX11_isStrained_24 : decode cX11_isStrained 24 = .ok (.aload_n 2, 1) := by decide +kernel
theorem dX11_isStrained_25 : decode cX11_isStrained 25 = .ok (.getfield 203, 3) := by decide +kernel
theorem dX11_isStrained_28 : decode cX11_isStrained 28 = .ok (.invokevirtual 199, 3) := by decide +kernel
theorem dX11_isStrained_31 : decode cX11_isStrained 31 = .ok (.iconst 1, 1) := by decide +kernel
theorem dX11_isStrained_32 : decode cX11_isStrained 32 = .ok (.ireturn, 1) := by decide +kernel
set_option maxRecDepth 20000 in
theorem ggX11_isClouded_X10_pipeAt : GoodIn wsX11_isClouded wsX10_pipeAt := goodIn_r _ [8, 9, 10, 68, 69, 70, 71, 72, 73, 74, 75, 76, 77, 78, 79] (by decide +kernel) (by decide +kernel)
set_option maxRecDepth 20000 in
theorem gX11_isClouded_X10_pipeAt : GoodIn wsX11_isClouded (wsV RX11 110 RX10 yX10_pipeAt wsX10_pipeAt) := goodIn_app (goodIn_of _ (by decide +kernel)) ggX11_isClouded_X10_pipeAt
set_option maxRecDepth 20000 in
theorem ggX11_isClouded_X1_has : GoodIn wsX11_isClouded wsX1_has := goodIn_r _ [15, 16, 80, 81, 82, 83, 84] (by decide +kernel) (by decide +kernel)
set_option maxRecDepth 20000 in
theorem gX11_isClouded_X1_has : GoodIn wsX11_isClouded (wsV RX11 166 RX1 yX1_has wsX1_has) := goodIn_app (goodIn_of _ (by decide +kernel)) ggX11_isClouded_X1_has
theorem dX11_isClouded_0 : decode cX11_isClouded 0 = .ok (.aload_n 0, 1) := by decide +kernel
theorem dX11_isClouded_1 : decode cX11_isClouded 1 = .ok (.getfield 62, 3) := by decide +kernel
theorem dX11_isClouded_4 : decode cX11_isClouded 4 = .ok (.iload_n 1, 1) := by decide +kernel
theorem dX11_isClouded_5 : decode cX11_isClouded 5 = .ok (.invokevirtual 110, 3) := by decide +kernel
theorem dX11_isClouded_8 : decode cX11_isClouded 8 = .ok (.astore_n 3, 1) := by decide +kernel
theorem dX11_isClouded_9 : decode cX11_isClouded 9 = .ok (.aload_n 3, 1) := by decide +kernel
theorem dX11_isClouded_10 : decode cX11_isClouded 10 = .ok (.ifnull 17, 3) := by decide +kernel
theorem dX11_isClouded_13 : decode cX11_isClouded 13 = .ok (.aload_n 0, 1) := by decide +kernel
theorem dX11_isClouded_14 : decode cX11_isClouded 14 = .ok (.getfield 62, 3) := by decide +kernel
theorem dX11_isClouded_17 : decode cX11_isClouded 17 = .ok (.getfield 163, 3) := by decide +kernel
theorem dX11_isClouded_20 : decode cX11_isClouded 20 = .ok (.iload_n 2, 1) := by decide +kernel
theorem dX11_isClouded_21 : decode cX11_isClouded 21 = .ok (.invokevirtual 166, 3) := by decide +kernel
theorem dX11_isClouded_24 : decode cX11_isClouded 24 = .ok (.ifCond .ne 5, 3) := by decide +kernel
theorem dX11_isClouded_27 : decode cX11_isClouded 27 = .ok (.iconst 0, 1) := by decide +kernel
theorem dX11_isClouded_28 : decode cX11_isClouded 28 = .ok (.ireturn, 1) := by decide +kernel
theorem dX11_isClouded_29 : decode cX11_isClouded 29 = .ok (.aload_n 0, 1) := by decide +kernel
theorem dX11_isClouded_30 : decode cX11_isClouded 30 = .ok (.getfield 53, 3) := by decide +kernel
theorem dX11_isClouded_33 : decode cX11_isClouded 33 = .ok (.aload_n 0, 1) := by decide +kernel
theorem dX11_isClouded_34 : decode cX11_isClouded 34 = .ok (.getfield 62, 3) := by decide +kernel
theorem dX11_isClouded_37 : decode cX11_isClouded 37 = .ok (.aload_n 3, 1) := by decide +kernel
theorem dX11_isClouded_38 : decode cX11_isClouded 38 = .ok (.aload_n 0, 1) := by decide +kernel
theorem dX11_isClouded_39 : decode cX11_isClouded 39 = .ok (.getfield 62, 3) := by decide +kernel
theorem dX11_isClouded_42 : decode cX11_isClouded 42 = .ok (.getfield 163, 3) := by decide +kernel
theorem dX11_isClouded_45 : decode cX11_isClouded 45 = .ok (.iload_n 2, 1) := by decide +kernel
theorem dX11_isClouded_46 : decode cX11_isClouded 46 = .ok (.invokevirtual 169, 3) := by decide +kernel
theorem dX11_isClouded_49 : decode cX11_isClouded 49 = .ok (.invokevirtual 360, 3) := by decide +kernel
theorem dX11_isClouded_52 : decode cX11_isClouded 52 = .ok (.iconst 1, 1) := by decide +kernel
theorem dX11_isClouded_53 : decode cX11_isClouded 53 = .ok (.ireturn, 1) := by decide +kernel
theorem dX11_slotAt_0 : decode cX11_slotAt 0 = .ok (.iload_n 1, 1) := by decide +kernel
theorem dX11_slotAt_1 : decode cX11_slotAt 1 = .ok (.ifCond .lt 12, 3) := by decide +kernel
theorem dX11_slotAt_4 : decode cX11_slotAt 4 = .ok (.iload_n 1, 1) := by decide +kernel
theorem dX11_slotAt_5 : decode cX11_slotAt 5 = .ok (.aload_n 0, 1) := by decide +kernel
theorem dX11_slotAt_6 : decode cX11_slotAt 6 = .ok (.getfield 25, 3) := by decide +kernel
theorem dX11_slotAt_9 : decode cX11_slotAt 9 = .ok (.arraylength, 1) := by decide +kernel
theorem dX11_slotAt_10 : decode cX11_slotAt 10 = .ok (.if_icmp .lt 7, 3) := by decide +kernel
theorem dX11_slotAt_13 : decode cX11_slotAt 13 = .ok (.aconst_null, 1) := by decide +kernel
theorem dX11_slotAt_14 : decode cX11_slotAt 14 = .ok (.goto 9, 3) := by decide +kernel
theorem dX11_slotAt_17 : decode cX11_slotAt 17 = .ok (.aload_n 0, 1) := by decide +kernel
theorem dX11_slotAt_18 : decode cX11_slotAt 18 = .ok (.getfield 25, 3) := by decide +kernel
theorem dX11_slotAt_21 : decode cX11_slotAt 21 = .ok (.iload_n 1, 1) := by decide +kernel
theorem dX11_slotAt_22 : decode cX11_slotAt 22 = .ok (.aaload, 1) := by decide +kernel
theorem dX11_slotAt_23 : decode cX11_slotAt 23 = .ok (.areturn, 1) := by decide +kernel
theorem dX11_slotsWithRow_0 : decode cX11_slotsWithRow 0 = .ok (.iconst 0, 1) := by decide +kernel
theorem dX11_slotsWithRow_1 : decode cX11_slotsWithRow 1 = .ok (.istore_n 1, 1) := by decide +kernel
theorem dX11_slotsWithRow_2 : decode cX11_slotsWithRow 2 = .ok (.aload_n 0, 1) := by decide +kernel
theorem dX11_slotsWithRow_3 : decode cX11_slotsWithRow 3 = .ok (.getfield 25, 3) := by decide +kernel
theorem dX11_slotsWithRow_6 : decode cX11_slotsWithRow 6 = .ok (.astore_n 2, 1) := by decide +kernel
theorem dX11_slotsWithRow_7 : decode cX11_slotsWithRow 7 = .ok (.aload_n 2, 1) := by decide +kernel
theorem dX11_slotsWithRow_8 : decode cX11_slotsWithRow 8 = .ok (.arraylength, 1) := by decide +kernel
theorem dX11_slotsWithRow_9 : decode cX11_slotsWithRow 9 = .ok (.istore_n 3, 1) := by decide +kernel
theorem dX11_slotsWithRow_10 : decode cX11_slotsWithRow 10 = .ok (.iconst 0, 1) := by decide +kernel
theorem dX11_slotsWithRow_11 : decode cX11_slotsWithRow 11 = .ok (.istore 4, 2) := by decide +kernel
theorem dX11_slotsWithRow_13 : decode cX11_slotsWithRow 13 = .ok (.iload 4, 2) := by decide +kernel
theorem dX11_slotsWithRow_15 : decode cX11_slotsWithRow 15 = .ok (.iload_n 3, 1) := by decide +kernel
theorem dX11_slotsWithRow_16 : decode cX11_slotsWithRow 16 = .ok (.if_icmp .ge 31, 3) := by decide +kernel
theorem dX11_slotsWithRow_19 : decode cX11_slotsWithRow 19 = .ok (.aload_n 2, 1) := by decide +kernel
theorem dX11_slotsWithRow_20 : decode cX11_slotsWithRow 20 = .ok (.iload 4, 2) := by decide +kernel
theorem dX11_slotsWithRow_22 : decode cX11_slotsWithRow 22 = .ok (.aaload, 1) := by decide +kernel
theorem dX11_slotsWithRow_23 : decode cX11_slotsWithRow 23 = .ok (.astore 5, 2) := by decide +kernel
theorem dX11_slotsWithRow_25 : decode cX11_slotsWithRow 25 = .ok (.aload 5, 2) := by decide +kernel
theorem dX11_slotsWithRow_27 : decode cX11_slotsWithRow 27 = .ok (.ifnull 14, 3) := by decide +kernel
theorem dX11_slotsWithRow_30 : decode cX11_slotsWithRow 30 = .ok (.aload 5, 2) := by decide +kernel
theorem dX11_slotsWithRow_32 : decode cX11_slotsWithRow 32 = .ok (.getfield 211, 3) := by decide +kernel
theorem dX11_slotsWithRow_35 : decode cX11_slotsWithRow 35 = .ok (.ifCond .eq 6, 3) := by decide +kernel
theorem dX11_slotsWithRow_38 : decode cX11_slotsWithRow 38 = .ok (.iinc 1 1, 3) := by decide +kernel
theorem dX11_slotsWithRow_41 : decode cX11_slotsWithRow 41 = .ok (.iinc 4 1, 3) := by decide +kernel
theorem dX11_slotsWithRow_44 : decode cX11_slotsWithRow 44 = .ok (.goto (-31), 3) := by decide +kernel
theorem dX11_slotsWithRow_47 : decode cX11_slotsWithRow 47 = .ok (.iload_n 1, 1) := by decide +kernel
theorem dX11_slotsWithRow_48 : decode cX11_slotsWithRow 48 = .ok (.ireturn, 1) := by decide +kernel
set_option maxRecDepth 20000 in
theorem ggX11_firstWithout_X11_isStrained : GoodIn wsX11_firstWithout wsX11_isStrained := goodIn_r _ [10, 1, 3, 11, 12, 13, 14, 15, 16, 17, 18, 19, 20, 21, 22, 23, 24, 25, 26, 27, 28, 29, 30, 31, 32, 33, 34, 35, 36, 37, 38, 39, 40, 41, 42, 43, 100, 101, 102, 103, 104, 105, 106, 107, 108, 109, 110, 123, 124, 125, 126, 127, 128, 129, 111, 112, 113, 114, 115, 116, 117, 118, 119, 120, 121, 122, 130, 131, 132, 133, 134, 135, 136, 137, 138, 139, 140, 141, 142, 143, 144, 145, 146] (by decide +kernel) (by decide +kernel)
set_option maxRecDepth 20000 in
theorem gX11_firstWithout_X11_isStrained : GoodIn wsX11_firstWithout (wsV RX11 145 RX11 yX11_isStrained wsX11_isStrained) := goodIn_app (goodIn_of _ (by decide +kernel)) ggX11_firstWithout_X11_isStrained
theorem dX11_firstWithout_0 : decode cX11_firstWithout 0 = .ok (.iconst (-1), 1) := by decide +kernel
theorem dX11_firstWithout_1 : decode cX11_firstWithout 1 = .ok (.istore_n 3, 1) := by decide +kernel
theorem dX11_firstWithout_2 : decode cX11_firstWithout 2 = .ok (.iconst (-1), 1) := by decide +kernel
theorem dX11_firstWithout_3 : decode cX11_firstWithout 3 = .ok (.istore 4, 2) := by decide +kernel
theorem dX11_firstWithout_5 : decode cX11_firstWithout 5 = .ok (.iconst 0, 1) := by decide +kernel
theorem dX11_firstWithout_6 : decode cX11_firstWithout 6 = .ok (.istore 5, 2) := by decide +kernel
theorem dX11_firstWithout_8 : decode cX11_firstWithout 8 = .ok (.iload 5, 2) := by decide +kernel
theorem dX11_firstWithout_10 : decode cX11_firstWithout 10 = .ok (.aload_n 0, 1) := by decide +kernel
theorem dX11_firstWithout_11 : decode cX11_firstWithout 11 = .ok (.getfield 62, 3) := by decide +kernel
theorem dX11_firstWithout_14 : decode cX11_firstWithout 14 = .ok (.getfield 222, 3) := by decide +kernel
theorem dX11_firstWithout_17 : decode cX11_firstWithout 17 = .ok (.if_icmp .ge 70, 3) := by decide +kernel
theorem dX11_firstWithout_20 : decode cX11_firstWithout 20 = .ok (.iload 5, 2) := by decide +kernel
theorem dX11_firstWithout_22 : decode cX11_firstWithout 22 = .ok (.iload_n 1, 1) := by decide +kernel
theorem dX11_firstWithout_23 : decode cX11_firstWithout 23 = .ok (.if_icmp .eq 29, 3) := by decide +kernel
theorem dX11_firstWithout_26 : decode cX11_firstWithout 26 = .ok (.aload_n 0, 1) := by decide +kernel
theorem dX11_firstWithout_27 : decode cX11_firstWithout 27 = .ok (.iload 5, 2) := by decide +kernel
theorem dX11_firstWithout_29 : decode cX11_firstWithout 29 = .ok (.invokevirtual 145, 3) := by decide +kernel
theorem dX11_firstWithout_32 : decode cX11_firstWithout 32 = .ok (.ifCond .eq 20, 3) := by decide +kernel
theorem dX11_firstWithout_35 : decode cX11_firstWithout 35 = .ok (.aload_n 0, 1) := by decide +kernel
theorem dX11_firstWithout_36 : decode cX11_firstWithout 36 = .ok (.getfield 32, 3) := by decide +kernel
theorem dX11_firstWithout_39 : decode cX11_firstWithout 39 = .ok (.aload_n 0, 1) := by decide +kernel
theorem dX11_firstWithout_40 : decode cX11_firstWithout 40 = .ok (.getfield 62, 3) := by decide +kernel
theorem dX11_firstWithout_43 : decode cX11_firstWithout 43 = .ok (.getfield 163, 3) := by decide +kernel
theorem dX11_firstWithout_46 : decode cX11_firstWithout 46 = .ok (.invokevirtual 176, 3) := by decide +kernel
theorem dX11_firstWithout_49 : decode cX11_firstWithout 49 = .ok (.goto 4, 3) := by decide +kernel
theorem dX11_firstWithout_52 : decode cX11_firstWithout 52 = .ok (.iconst (-1), 1) := by decide +kernel
theorem dX11_firstWithout_53 : decode cX11_firstWithout 53 = .ok (.istore 6, 2) := by decide +kernel
theorem dX11_firstWithout_55 : decode cX11_firstWithout 55 = .ok (.iload 6, 2) := by decide +kernel
theorem dX11_firstWithout_57 : decode cX11_firstWithout 57 = .ok (.iconst (-1), 1) := by decide +kernel
theorem dX11_firstWithout_58 : decode cX11_firstWithout 58 = .ok (.if_icmp .eq 23, 3) := by decide +kernel
theorem dX11_firstWithout_61 : decode cX11_firstWithout 61 = .ok (.iload 4, 2) := by decide +kernel
theorem dX11_firstWithout_63 : decode cX11_firstWithout 63 = .ok (.iconst (-1), 1) := by decide +kernel
theorem dX11_firstWithout_64 : decode cX11_firstWithout 64 = .ok (.if_icmp .eq 10, 3) := by decide +kernel
theorem dX11_firstWithout_67 : decode cX11_firstWithout 67 = .ok (.iload 6, 2) := by decide +kernel
theorem dX11_firstWithout_69 : decode cX11_firstWithout 69 = .ok (.iload 4, 2) := by decide +kernel
theorem dX11_firstWithout_71 : decode cX11_firstWithout 71 = .ok (.if_icmp .ge 10, 3) := by decide +kernel
theorem dX11_firstWithout_74 : decode cX11_firstWithout 74 = .ok (.iload 6, 2) := by decide +kernel
theorem dX11_firstWithout_76 : decode cX11_firstWithout 76 = .ok (.istore 4, 2) := by decide +kernel
theorem dX11_firstWithout_78 : decode cX11_firstWithout 78 = .ok (.iload 5, 2) := by decide +kernel
theorem dX11_firstWithout_80 : decode cX11_firstWithout 80 = .ok (.istore_n 3, 1) := by decide +kernel
theorem dX11_firstWithout_81 : decode cX11_firstWithout 81 = .ok (.iinc 5 1, 3) := by decide +kernel
theorem dX11_firstWithout_84 : decode cX11_firstWithout 84 = .ok (.goto (-76), 3) := by decide +kernel
theorem dX11_firstWithout_87 : decode cX11_firstWithout 87 = .ok (.iconst 0, 1) := by decide +kernel
theorem dX11_firstWithout_88 : decode cX11_firstWithout 88 = .ok (.istore 5, 2) := by decide +kernel
theorem dX11_firstWithout_90 : decode cX11_firstWithout 90 = .ok (.iload 5, 2) := by decide +kernel
theorem dX11_firstWithout_92 : decode cX11_firstWithout 92 = .ok (.aload_n 0, 1) := by decide +kernel
theorem dX11_firstWithout_93 : decode cX11_firstWithout 93 = .ok (.getfield 62, 3) := by decide +kernel
theorem dX11_firstWithout_96 : decode cX11_firstWithout 96 = .ok (.getfield 310, 3) := by decide +kernel
theorem dX11_firstWithout_99 : decode cX11_firstWithout 99 = .ok (.if_icmp .ge 72, 3) := by decide +kernel
