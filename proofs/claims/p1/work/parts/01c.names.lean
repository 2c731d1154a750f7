set_option maxRecDepth 20000 in
theorem gX11_height_X10_hasPot : GoodIn wsX11_height (wsV RX11 102 RX10 yX10_hasPot wsX10_hasPot) := goodIn_app (goodIn_of _ (by decide +kernel)) ggX11_height_X10_hasPot
theorem dX11_height_0 : decode cX11_height 0 = .ok (.aload_n 0, 1) := by decide +kernel
theorem dX11_height_1 : decode cX11_height 1 = .ok (.getfield 62, 3) := by decide +kernel
theorem dX11_height_4 : decode cX11_height 4 = .ok (.iload_n 1, 1) := by decide +kernel
theorem dX11_height_5 : decode cX11_height 5 = .ok (.invokevirtual 102, 3) := by decide +kernel
theorem dX11_height_8 : decode cX11_height 8 = .ok (.ifCond .eq 14, 3) := by decide +kernel
theorem dX11_height_11 : decode cX11_height 11 = .ok (.aload_n 0, 1) := by decide +kernel
theorem dX11_height_12 : decode cX11_height 12 = .ok (.getfield 62, 3) := by decide +kernel
theorem dX11_height_15 : decode cX11_height 15 = .ok (.iload_n 1, 1) := by decide +kernel
theorem dX11_height_16 : decode cX11_height 16 = .ok (.invokevirtual 105, 3) := by decide +kernel
theorem dX11_height_19 : decode cX11_height 19 = .ok (.goto 5, 3) := by decide +kernel
theorem dX11_height_22 : decode cX11_height 22 = .ok (.ldc 109, 2) := by decide +kernel
theorem dX11_height_24 : decode cX11_height 24 = .ok (.ireturn, 1) := by decide +kernel
set_option maxRecDepth 20000 in
theorem ggX11_pipe_X10_pipeAt : GoodIn wsX11_pipe wsX10_pipeAt := goodIn_r _ [14, 15, 16, 56, 57, 58, 59, 60, 61, 62, 63, 64, 65, 66, 67] (by decide +kernel) (by decide +kernel)
set_option maxRecDepth 20000 in
theorem gX11_pipe_X10_pipeAt : GoodIn wsX11_pipe (wsV RX11 110 RX10 yX10_pipeAt wsX10_pipeAt) := goodIn_app (goodIn_of _ (by decide +kernel)) ggX11_pipe_X10_pipeAt
theorem dX11_pipe_0 : decode cX11_pipe 0 = .ok (.aload_n 0, 1) := by decide +kernel
theorem dX11_pipe_1 : decode cX11_pipe 1 = .ok (.getfield 62, 3) := by decide +kernel
theorem dX11_pipe_4 : decode cX11_pipe 4 = .ok (.iload_n 1, 1) := by decide +kernel
theorem dX11_pipe_5 : decode cX11_pipe 5 = .ok (.invokevirtual 110, 3) := by decide +kernel
theorem dX11_pipe_8 : decode cX11_pipe 8 = .ok (.astore_n 3, 1) := by decide +kernel
theorem dX11_pipe_9 : decode cX11_pipe 9 = .ok (.aload_n 3, 1) := by decide +kernel
theorem dX11_pipe_10 : decode cX11_pipe 10 = .ok (.ifnonnull 6, 3) := by decide +kernel
theorem dX11_pipe_13 : decode cX11_pipe 13 = .ok (.ldc 109, 2) := by decide +kernel
theorem dX11_pipe_15 : decode cX11_pipe 15 = .ok (.ireturn, 1) := by decide +kernel
theorem dX11_pipe_16 : decode cX11_pipe 16 = .ok (.iload_n 2, 1) := by decide +kernel
theorem dX11_pipe_17 : decode cX11_pipe 17 = .ok (.tableswitch 123 0 7 #[47, 52, 57, 65, 73, 86, 94, 118], 47) := by decide +kernel
theorem dX11_pipe_64 : decode cX11_pipe 64 = .ok (.aload_n 3, 1) := by decide +kernel
theorem dX11_pipe_65 : decode cX11_pipe 65 = .ok (.getfield 114, 3) := by decide +kernel
theorem dX11_pipe_68 : decode cX11_pipe 68 = .ok (.ireturn, 1) := by decide +kernel
theorem dX11_pipe_69 : decode cX11_pipe 69 = .ok (.aload_n 3, 1) := by decide +kernel
theorem dX11_pipe_70 : decode cX11_pipe 70 = .ok (.getfield 119, 3) := by decide +kernel
theorem dX11_pipe_73 : decode cX11_pipe 73 = .ok (.ireturn, 1) := by decide +kernel
theorem dX11_pipe_74 : decode cX11_pipe 74 = .ok (.aload_n 3, 1) := by decide +kernel
theorem dX11_pipe_75 : decode cX11_pipe 75 = .ok (.getfield 122, 3) := by decide +kernel
theorem dX11_pipe_78 : decode cX11_pipe 78 = .ok (.getfield 125, 3) := by decide +kernel
theorem dX11_pipe_81 : decode cX11_pipe 81 = .ok (.ireturn, 1) := by decide +kernel
theorem dX11_pipe_82 : decode cX11_pipe 82 = .ok (.aload_n 3, 1) := by decide +kernel
theorem dX11_pipe_83 : decode cX11_pipe 83 = .ok (.getfield 122, 3) := by decide +kernel
theorem dX11_pipe_86 : decode cX11_pipe 86 = .ok (.getfield 128, 3) := by decide +kernel
theorem dX11_pipe_89 : decode cX11_pipe 89 = .ok (.ireturn, 1) := by decide +kernel
theorem dX11_pipe_90 : decode cX11_pipe 90 = .ok (.aload_n 3, 1) := by decide +kernel
theorem dX11_pipe_91 : decode cX11_pipe 91 = .ok (.getfield 122, 3) := by decide +kernel
theorem dX11_pipe_94 : decode cX11_pipe 94 = .ok (.getfield 128, 3) := by decide +kernel
theorem dX11_pipe_97 : decode cX11_pipe 97 = .ok (.aload_n 3, 1) := by decide +kernel
theorem dX11_pipe_98 : decode cX11_pipe 98 = .ok (.getfield 131, 3) := by decide +kernel
theorem dX11_pipe_101 : decode cX11_pipe 101 = .ok (.imul, 1) := by decide +kernel
theorem dX11_pipe_102 : decode cX11_pipe 102 = .ok (.ireturn, 1) := by decide +kernel
theorem dX11_pipe_103 : decode cX11_pipe 103 = .ok (.aload_n 3, 1) := by decide +kernel
theorem dX11_pipe_104 : decode cX11_pipe 104 = .ok (.getfield 122, 3) := by decide +kernel
theorem dX11_pipe_107 : decode cX11_pipe 107 = .ok (.invokevirtual 134, 3) := by decide +kernel
theorem dX11_pipe_110 : decode cX11_pipe 110 = .ok (.ireturn, 1) := by decide +kernel
theorem dX11_pipe_111 : decode cX11_pipe 111 = .ok (.aload_n 3, 1) := by decide +kernel
theorem dX11_pipe_112 : decode cX11_pipe 112 = .ok (.getfield 119, 3) := by decide +kernel
theorem dX11_pipe_115 : decode cX11_pipe 115 = .ok (.aload_n 3, 1) := by decide +kernel
theorem dX11_pipe_116 : decode cX11_pipe 116 = .ok (.getfield 114, 3) := by decide +kernel
theorem dX11_pipe_119 : decode cX11_pipe 119 = .ok (.isub, 1) := by decide +kernel
theorem dX11_pipe_120 : decode cX11_pipe 120 = .ok (.iconst 1, 1) := by decide +kernel
theorem dX11_pipe_121 : decode cX11_pipe 121 = .ok (.if_icmp .le 12, 3) := by decide +kernel
theorem dX11_pipe_124 : decode cX11_pipe 124 = .ok (.aload_n 3, 1) := by decide +kernel
theorem dX11_pipe_125 : decode cX11_pipe 125 = .ok (.getfield 114, 3) := by decide +kernel
theorem dX11_pipe_128 : decode cX11_pipe 128 = .ok (.iconst 1, 1) := by decide +kernel
theorem dX11_pipe_129 : decode cX11_pipe 129 = .ok (.iadd, 1) := by decide +kernel
theorem dX11_pipe_130 : decode cX11_pipe 130 = .ok (.goto 4, 3) := by decide +kernel
theorem dX11_pipe_133 : decode cX11_pipe 133 = .ok (.iconst (-1), 1) := by decide +kernel
theorem dX11_pipe_134 : decode cX11_pipe 134 = .ok (.ireturn, 1) := by decide +kernel
theorem dX11_pipe_135 : decode cX11_pipe 135 = .ok (.aload_n 3, 1) := by decide +kernel
theorem dX11_pipe_136 : decode cX11_pipe 136 = .ok (.getfield 138, 3) := by decide +kernel
theorem dX11_pipe_139 : decode cX11_pipe 139 = .ok (.ireturn, 1) := by decide +kernel
theorem dX11_pipe_140 : decode cX11_pipe 140 = .ok (.ldc 109, 2) := by decide +kernel
theorem dX11_pipe_142 : decode cX11_pipe 142 = .ok (.ireturn, 1) := by decide +kernel
set_option maxRecDepth 20000 in
theorem ggX11_bend_X10_pipeAt : GoodIn wsX11_bend wsX10_pipeAt := goodIn_r _ [8, 9, 10, 40, 41, 42, 43, 44, 45, 46, 47, 48, 49, 50, 51] (by decide +kernel) (by decide +kernel)
set_option maxRecDepth 20000 in
theorem gX11_bend_X10_pipeAt : GoodIn wsX11_bend (wsV RX11 110 RX10 yX10_pipeAt wsX10_pipeAt) := goodIn_app (goodIn_of _ (by decide +kernel)) ggX11_bend_X10_pipeAt
theorem dX11_bend_0 : decode cX11_bend 0 = .ok (.aload_n 0, 1) := by decide +kernel
theorem dX11_bend_1 : decode cX11_bend 1 = .ok (.getfield 62, 3) := by decide +kernel
theorem dX11_bend_4 : decode cX11_bend 4 = .ok (.iload_n 1, 1) := by decide +kernel
theorem dX11_bend_5 : decode cX11_bend 5 = .ok (.invokevirtual 110, 3) := by decide +kernel
theorem dX11_bend_8 : decode cX11_bend 8 = .ok (.astore 4, 2) := by decide +kernel
theorem dX11_bend_10 : decode cX11_bend 10 = .ok (.aload 4, 2) := by decide +kernel
theorem dX11_bend_12 : decode cX11_bend 12 = .ok (.ifnonnull 8, 3) := by decide +kernel
theorem dX11_bend_15 : decode cX11_bend 15 = .ok (.ldc 109, 2) := by decide +kernel
theorem dX11_bend_17 : decode cX11_bend 17 = .ok (.goto 13, 3) := by decide +kernel
theorem dX11_bend_20 : decode cX11_bend 20 = .ok (.aload 4, 2) := by decide +kernel
theorem dX11_bend_22 : decode cX11_bend 22 = .ok (.getfield 122, 3) := by decide +kernel
theorem dX11_bend_25 : decode cX11_bend 25 = .ok (.iload_n 2, 1) := by decide +kernel
theorem dX11_bend_26 : decode cX11_bend 26 = .ok (.iload_n 3, 1) := by decide +kernel
theorem dX11_bend_27 : decode cX11_bend 27 = .ok (.invokevirtual 141, 3) := by decide +kernel
theorem dX11_bend_30 : decode cX11_bend 30 = .ok (.ireturn, 1) := by decide +kernel
set_option maxRecDepth 20000 in
theorem ggX11_need_X11_isStrained : GoodIn wsX11_need wsX11_isStrained := goodIn_r _ [7, 8, 1, 9, 10, 11, 12, 13, 14, 15, 16, 17, 18, 19, 20, 21, 22, 23, 24, 25, 26, 27, 28, 29, 30, 31, 32, 33, 34, 35, 36, 37, 38, 39, 40, 41, 49, 50, 51, 52, 53, 54, 55, 56, 57, 58, 59, 60, 61, 62, 63, 64, 65, 66, 67, 68, 69, 70, 71, 72, 73, 74, 75, 76, 77, 78, 79, 80, 81, 82, 83, 84, 85, 86, 87, 88, 89, 90, 91, 92, 93, 94, 95] (by decide +kernel) (by decide +kernel)
set_option maxRecDepth 20000 in
theorem gX11_need_X11_isStrained : GoodIn wsX11_need (wsV RX11 145 RX11 yX11_isStrained wsX11_isStrained) := goodIn_app (goodIn_of _ (by decide +kernel)) ggX11_need_X11_isStrained
set_option maxRecDepth 20000 in
theorem ggX11_need_X11_isPress : GoodIn wsX11_need wsX11_isPress := goodIn_r _ [44] (by decide +kernel) (by decide +kernel)
set_option maxRecDepth 20000 in
theorem gX11_need_X11_isPress : GoodIn wsX11_need (va_wsS RX11 148 yX11_isPress wsX11_isPress) := goodIn_app (goodIn_of _ (by decide +kernel)) ggX11_need_X11_isPress
theorem dX11_need_0 : decode cX11_need 0 = .ok (.aload_n 0, 1) := by decide +kernel
theorem dX11_need_1 : decode cX11_need 1 = .ok (.iload_n 1, 1) := by decide +kernel
theorem dX11_need_2 : decode cX11_need 2 = .ok (.invokevirtual 145, 3) := by decide +kernel
theorem dX11_need_5 : decode cX11_need 5 = .ok (.ifCond .eq 21, 3) := by decide +kernel
theorem dX11_need_8 : decode cX11_need 8 = .ok (.iload_n 2, 1) := by decide +kernel
theorem dX11_need_9 : decode cX11_need 9 = .ok (.invokestatic 148, 3) := by decide +kernel
theorem dX11_need_12 : decode cX11_need 12 = .ok (.ifCond .eq 14, 3) := by decide +kernel
theorem dX11_need_15 : decode cX11_need 15 = .ok (.aload_n 0, 1) := by decide +kernel
theorem dX11_need_16 : decode cX11_need 16 = .ok (.getfield 32, 3) := by decide +kernel
theorem dX11_need_19 : decode cX11_need 19 = .ok (.iload_n 2, 1) := by decide +kernel
theorem dX11_need_20 : decode cX11_need 20 = .ok (.invokevirtual 151, 3) := by decide +kernel
theorem dX11_need_23 : decode cX11_need 23 = .ok (.goto 6, 3) := by decide +kernel
theorem dX11_need_26 : decode cX11_need 26 = .ok (.ldc2_w 155, 3) := by decide +kernel
theorem dX11_need_29 : decode cX11_need 29 = .ok (.lreturn, 1) := by decide +kernel
set_option maxRecDepth 20000 in
theorem ggX11_load_X11_isStrained : GoodIn wsX11_load wsX11_isStrained := goodIn_r _ [6, 7, 1, 8, 9, 10, 11, 12, 13, 14, 15, 16, 17, 18, 19, 20, 21, 22, 23, 24, 25, 26, 27, 28, 29, 30, 31, 32, 33, 34, 35, 36, 37, 38, 39, 40, 56, 57, 58, 59, 60, 61, 62, 63, 64, 65, 66, 67, 68, 69, 70, 71, 72, 73, 74, 75, 76, 77, 78, 79, 80, 81, 82, 83, 84, 85, 86, 87, 88, 89, 90, 91, 92, 93, 94, 95, 96, 97, 98, 99, 100, 101, 102] (by decide +kernel) (by decide +kernel)
set_option maxRecDepth 20000 in
theorem gX11_load_X11_isStrained : GoodIn wsX11_load (wsV RX11 145 RX11 yX11_isStrained wsX11_isStrained) := goodIn_app (goodIn_of _ (by decide +kernel)) ggX11_load_X11_isStrained
set_option maxRecDepth 20000 in
theorem ggX11_load_X11_isPress : GoodIn wsX11_load wsX11_isPress := goodIn_r _ [43] (by decide +kernel) (by decide +kernel)
set_option maxRecDepth 20000 in
theorem gX11_load_X11_isPress : GoodIn wsX11_load (va_wsS RX11 148 yX11_isPress wsX11_isPress) := goodIn_app (goodIn_of _ (by decide +kernel)) ggX11_load_X11_isPress
theorem dX11_load_0 : decode cX11_load 0 = .ok (.aload_n 0, 1) := by decide +kernel
theorem dX11_load_1 : decode cX11_load 1 = .ok (.iload_n 1, 1) := by decide +kernel
theorem dX11_load_2 : decode cX11_load 2 = .ok (.invokevirtual 145, 3) := by decide +kernel
theorem dX11_load_5 : decode cX11_load 5 = .ok (.ifCond .eq 21, 3) := by decide +kernel
theorem dX11_load_8 : decode cX11_load 8 = .ok (.iload_n 2, 1) := by decide +kernel
theorem dX11_load_9 : decode cX11_load 9 = .ok (.invokestatic 148, 3) := by decide +kernel
theorem dX11_load_12 : decode cX11_load 12 = .ok (.ifCond .eq 14, 3) := by decide +kernel
theorem dX11_load_15 : decode cX11_load 15 = .ok (.aload_n 0, 1) := by decide +kernel
theorem dX11_load_16 : decode cX11_load 16 = .ok (.getfield 32, 3) := by decide +kernel
theorem dX11_load_19 : decode cX11_load 19 = .ok (.iload_n 2, 1) := by decide +kernel
theorem dX11_load_20 : decode cX11_load 20 = .ok (.invokevirtual 157, 3) := by decide +kernel
theorem dX11_load_23 : decode cX11_load 23 = .ok (.goto 5, 3) := by decide +kernel
theorem dX11_load_26 : decode cX11_load 26 = .ok (.bipush (-2), 2) := by decide +kernel
theorem dX11_load_28 : decode cX11_load 28 = .ok (.ireturn, 1) := by decide +kernel
set_option maxRecDepth 20000 in
theorem ggX11_bows_X11_isStrained : GoodIn wsX11_bows wsX11_isStrained := goodIn_r _ [6, 7, 1, 8, 9, 10, 11, 12, 13, 14, 15, 16, 17, 18, 19, 20, 21, 22, 23, 24, 25, 26, 27, 28, 29, 30, 31, 32, 33, 34, 35, 36, 37, 38, 39, 40, 57, 58, 59, 60, 61, 62, 63, 64, 65, 66, 67, 68, 69, 70, 71, 72, 73, 74, 75, 76, 77, 78, 79, 80, 81, 82, 83, 84, 85, 86, 87, 88, 89, 90, 91, 92, 93, 94, 95, 96, 97, 98, 99, 100, 101, 102, 103] (by decide +kernel) (by decide +kernel)
set_option maxRecDepth 20000 in
theorem gX11_bows_X11_isStrained : GoodIn wsX11_bows (wsV RX11 145 RX11 yX11_isStrained wsX11_isStrained) := goodIn_app (goodIn_of _ (by decide +kernel)) ggX11_bows_X11_isStrained
theorem dX11_bows_0 : decode cX11_bows 0 = .ok (.aload_n 0, 1) := by decide +kernel
theorem dX11_bows_1 : decode cX11_bows 1 = .ok (.iload_n 1, 1) := by decide +kernel
theorem dX11_bows_2 : decode cX11_bows 2 = .ok (.invokevirtual 145, 3) := by decide +kernel
theorem dX11_bows_5 : decode cX11_bows 5 = .ok (.ifCond .eq 13, 3) := by decide +kernel
theorem dX11_bows_8 : decode cX11_bows 8 = .ok (.aload_n 0, 1) := by decide +kernel
theorem dX11_bows_9 : decode cX11_bows 9 = .ok (.getfield 32, 3) := by decide +kernel
theorem dX11_bows_12 : decode cX11_bows 12 = .ok (.invokevirtual 160, 3) := by decide +kernel
theorem dX11_bows_15 : decode cX11_bows 15 = .ok (.goto 5, 3) := by decide +kernel
theorem dX11_bows_18 : decode cX11_bows 18 = .ok (.bipush (-2), 2) := by decide +kernel
theorem dX11_bows_20 : decode cX11_bows 20 = .ok (.ireturn, 1) := by decide +kernel
set_option maxRecDepth 20000 in
theorem ggX11_press_X1_has : GoodIn wsX11_press wsX1_has := goodIn_r _ [7, 8, 52, 53, 54, 55, 56] (by decide +kernel) (by decide +kernel)
set_option maxRecDepth 20000 in
theorem gX11_press_X1_has : GoodIn wsX11_press (wsV RX11 166 RX1 yX1_has wsX1_has) := goodIn_app (goodIn_of _ (by decide +kernel)) ggX11_press_X1_has
theorem dX11_press_0 : decode cX11_press 0 = .ok (.aload_n 0, 1) := by decide +kernel
theorem dX11_press_1 : decode cX11_press 1 = .ok (.getfield 62, 3) := by decide +kernel
theorem dX11_press_4 : decode cX11_press 4 = .ok (.getfield 163, 3) := by decide +kernel
theorem dX11_press_7 : decode cX11_press 7 = .ok (.iload_n 1, 1) := by decide +kernel
theorem dX11_press_8 : decode cX11_press 8 = .ok (.invokevirtual 166, 3) := by decide +kernel
theorem dX11_press_11 : decode cX11_press 11 = .ok (.ifCond .eq 17, 3) := by decide +kernel
theorem dX11_press_14 : decode cX11_press 14 = .ok (.aload_n 0, 1) := by decide +kernel
theorem dX11_press_15 : decode cX11_press 15 = .ok (.getfield 62, 3) := by decide +kernel
theorem dX11_press_18 : decode cX11_press 18 = .ok (.getfield 163, 3) := by decide +kernel
theorem dX11_press_21 : decode cX11_press 21 = .ok (.iload_n 1, 1) := by decide +kernel
theorem dX11_press_22 : decode cX11_press 22 = .ok (.invokevirtual 169, 3) := by decide +kernel
theorem dX11_press_25 : decode cX11_press 25 = .ok (.goto 5, 3) := by decide +kernel
theorem dX11_press_28 : decode cX11_press 28 = .ok (.bipush (-2), 2) := by decide +kernel
theorem dX11_press_30 : decode cX11_press 30 = .ok (.ireturn, 1) := by decide +kernel
set_option maxRecDepth 20000 in
theorem ggX11_wear_X1_has : GoodIn wsX11_wear wsX1_has := goodIn_r _ [8, 9, 112, 113, 114, 115, 116] (by decide +kernel) (by decide +kernel)
set_option maxRecDepth 20000 in
theorem gX11_wear_X1_has : GoodIn wsX11_wear (wsV RX11 166 RX1 yX1_has wsX1_has) := goodIn_app (goodIn_of _ (by decide +kernel)) ggX11_wear_X1_has
set_option maxRecDepth 20000 in
theorem ggX11_wear_X11_isStrained : GoodIn wsX11_wear wsX11_isStrained := goodIn_r _ [14, 1, 3, 15, 16, 17, 18, 19, 20, 21, 22, 23, 24, 25, 26, 27, 28, 29, 30, 31, 32, 33, 34, 35, 36, 37, 38, 39, 40, 41, 42, 43, 44, 45, 46, 47, 89, 90, 91, 92, 93, 94, 95, 96, 97, 98, 99, 117, 118, 119, 120, 121, 122, 123, 100, 101, 102, 103, 104, 105, 106, 107, 108, 109, 110, 111, 124, 125, 126, 127, 128, 129, 130, 131, 132, 133, 134, 135, 136, 137, 138, 139, 140] (by decide +kernel) (by decide +kernel)
set_option maxRecDepth 20000 in
theorem gX11_wear_X11_isStrained : GoodIn wsX11_wear (wsV RX11 145 RX11 yX11_isStrained wsX11_isStrained) := goodIn_app (goodIn_of _ (by decide +kernel)) ggX11_wear_X11_isStrained
theorem dX11_wear_0 : decode cX11_wear 0 = .ok (.aload_n 0, 1) := by decide +kernel
theorem dX11_wear_1 : decode cX11_wear 1 = .ok (.getfield 62, 3) := by decide +kernel
theorem dX11_wear_4 : decode cX11_wear 4 = .ok (.getfield 163, 3) := by decide +kernel
theorem dX11_wear_7 : decode cX11_wear 7 = .ok (.iload_n 2, 1) := by decide +kernel
theorem dX11_wear_8 : decode cX11_wear 8 = .ok (.invokevirtual 166, 3) := by decide +kernel
theorem dX11_wear_11 : decode cX11_wear 11 = .ok (.ifCond .eq 29, 3) := by decide +kernel
theorem dX11_wear_14 : decode cX11_wear 14 = .ok (.aload_n 0, 1) := by decide +kernel
theorem dX11_wear_15 : decode cX11_wear 15 = .ok (.iload_n 1, 1) := by decide +kernel
theorem dX11_wear_16 : decode cX11_wear 16 = .ok (.invokevirtual 145, 3) := by decide +kernel
theorem dX11_wear_19 : decode cX11_wear 19 = .ok (.ifCond .eq 21, 3) := by decide +kernel
theorem dX11_wear_22 : decode cX11_wear 22 = .ok (.aload_n 0, 1) := by decide +kernel
theorem dX11_wear_23 : decode cX11_wear 23 = .ok (.getfield 32, 3) := by decide +kernel
theorem dX11_wear_26 : decode cX11_wear 26 = .ok (.aload_n 0, 1) := by decide +kernel
theorem dX11_wear_27 : decode cX11_wear 27 = .ok (.getfield 62, 3) := by decide +kernel
theorem dX11_wear_30 : decode cX11_wear 30 = .ok (.getfield 163, 3) := by decide +kernel
theorem dX11_wear_33 : decode cX11_wear 33 = .ok (.iload_n 2, 1) := by decide +kernel
theorem dX11_wear_34 : decode cX11_wear 34 = .ok (.invokevirtual 172, 3) := by decide +kernel
theorem dX11_wear_37 : decode cX11_wear 37 = .ok (.goto 5, 3) := by decide +kernel
theorem dX11_wear_40 : decode cX11_wear 40 = .ok (.bipush (-2), 2) := by decide +kernel
theorem dX11_wear_42 : decode cX11_wear 42 = .ok (.ireturn, 1) := by decide +kernel
set_option maxRecDepth 20000 in
theorem ggX11_goes_X11_isStrained : GoodIn wsX11_goes wsX11_isStrained := goodIn_r _ [8, 2, 1, 9, 10, 11, 12, 13, 14, 15, 16, 17, 18, 19, 20, 21, 22, 23, 24, 25, 26, 27, 28, 29, 30, 31, 32, 33, 34, 35, 36, 37, 38, 39, 40, 41, 85, 86, 87, 88, 89, 90, 91, 92, 93, 94, 95, 108, 109, 110, 111, 112, 113, 114, 96, 97, 98, 99, 100, 101, 102, 103, 104, 105, 106, 107, 115, 116, 117, 118, 119, 120, 121, 122, 123, 124, 125, 126, 127, 128, 129, 130, 131] (by decide +kernel) (by decide +kernel)
set_option maxRecDepth 20000 in
theorem gX11_goes_X11_isStrained : GoodIn wsX11_goes (wsV RX11 145 RX11 yX11_isStrained wsX11_isStrained) := goodIn_app (goodIn_of _ (by decide +kernel)) ggX11_goes_X11_isStrained
theorem dX11_goes_0 : decode cX11_goes 0 = .ok (.aload_n 0, 1) := by decide +kernel
theorem dX11_goes_1 : decode cX11_goes 1 = .ok (.iload_n 1, 1) := by decide +kernel
theorem dX11_goes_2 : decode cX11_goes 2 = .ok (.invokevirtual 145, 3) := by decide +kernel
theorem dX11_goes_5 : decode cX11_goes 5 = .ok (.ifCond .eq 20, 3) := by decide +kernel
theorem dX11_goes_8 : decode cX11_goes 8 = .ok (.aload_n 0, 1) := by decide +kernel
theorem dX11_goes_9 : decode cX11_goes 9 = .ok (.getfield 32, 3) := by decide +kernel
theorem dX11_goes_12 : decode cX11_goes 12 = .ok (.aload_n 0, 1) := by decide +kernel
theorem dX11_goes_13 : decode cX11_goes 13 = .ok (.getfield 62, 3) := by decide +kernel
theorem dX11_goes_16 : decode cX11_goes 16 = .ok (.getfield 163, 3) := by decide +kernel
theorem dX11_goes_19 : decode cX11_goes 19 = .ok (.invokevirtual 176, 3) := by decide +kernel
theorem dX11_goes_22 : decode cX11_goes 22 = .ok (.goto 5, 3) := by decide +kernel
theorem dX11_goes_25 : decode cX11_goes 25 = .ok (.bipush (-2), 2) := by decide +kernel
theorem dX11_goes_27 : decode cX11_goes 27 = .ok (.ireturn, 1) := by decide +kernel
set_option maxRecDepth 20000 in
theorem ggX11_why_X11_isStrained : GoodIn wsX11_why wsX11_isStrained := goodIn_r _ [9, 2, 1, 10, 11, 12, 13, 14, 15, 16, 17, 18, 19, 20, 21, 22, 23, 24, 25, 26, 27, 28, 29, 30, 31, 32, 33, 34, 35, 36, 37, 38, 39, 40, 41, 42, 86, 87, 88, 89, 90, 91, 92, 93, 94, 95, 96, 115, 116, 117, 118, 119, 120, 121, 97, 98, 99, 100, 101, 102, 103, 104, 105, 106, 107, 108, 109, 110, 111, 112, 113, 114, 122, 123, 124, 125, 126, 127, 128, 129, 130, 131, 132] (by decide +kernel) (by decide +kernel)
set_option maxRecDepth 20000 in
theorem gX11_why_X11_isStrained : GoodIn wsX11_why (wsV RX11 145 RX11 yX11_isStrained wsX11_isStrained) := goodIn_app (goodIn_of _ (by decide +kernel)) ggX11_why_X11_isStrained
theorem dX11_why_0 : decode cX11_why 0 = .ok (.aload_n 0, 1) := by decide +kernel
theorem dX11_why_1 : decode cX11_why 1 = .ok (.iload_n 1, 1) := by decide +kernel
theorem dX11_why_2 : decode cX11_why 2 = .ok (.invokevirtual 145, 3) := by decide +kernel
theorem dX11_why_5 : decode cX11_why 5 = .ok (.ifCond .ne 6, 3) := by decide +kernel
theorem dX11_why_8 : decode cX11_why 8 = .ok (.bipush (-2), 2) := by decide +kernel
theorem dX11_why_10 : decode cX11_why 10 = .ok (.ireturn, 1) := by decide +kernel
theorem dX11_why_11 : decode cX11_why 11 = .ok (.aload_n 0, 1) := by decide +kernel
theorem dX11_why_12 : decode cX11_why 12 = .ok (.getfield 32, 3) := by decide +kernel
theorem dX11_why_15 : decode cX11_why 15 = .ok (.aload_n 0, 1) := by decide +kernel
theorem dX11_why_16 : decode cX11_why 16 = .ok (.getfield 62, 3) := by decide +kernel
theorem dX11_why_19 : decode cX11_why 19 = .ok (.getfield 163, 3) := by decide +kernel
theorem dX11_why_22 : decode cX11_why 22 = .ok (.invokevirtual 176, 3) := by decide +kernel
theorem dX11_why_25 : decode cX11_why 25 = .ok (.pop, 1) := by decide +kernel
theorem dX11_why_26 : decode cX11_why 26 = .ok (.aload_n 0, 1) := by decide +kernel
theorem dX11_why_27 : decode cX11_why 27 = .ok (.getfield 32, 3) := by decide +kernel
theorem dX11_why_30 : decode cX11_why 30 = .ok (.getfield 180, 3) := by decide +kernel
theorem dX11_why_33 : decode cX11_why 33 = .ok (.ireturn, 1) := by decide +kernel
set_option maxRecDepth 20000 in
theorem ggX11_bursts_X10_hasPot : GoodIn wsX11_bursts wsX10_hasPot := goodIn_r _ [7, 8, 46, 47, 48, 49, 50, 51, 52, 53, 54, 55, 56, 57] (by decide +kernel) (by decide +kernel)
set_option maxRecDepth 20000 in
theorem gX11_bursts_X10_hasPot : GoodIn wsX11_bursts (wsV RX11 102 RX10 yX10_hasPot wsX10_hasPot) := goodIn_app (goodIn_of _ (by decide +kernel)) ggX11_bursts_X10_hasPot
theorem dX11_bursts_0 : decode cX11_bursts 0 = .ok (.aload_n 0, 1) := by decide +kernel
theorem dX11_bursts_1 : decode cX11_bursts 1 = .ok (.getfield 62, 3) := by decide +kernel
theorem dX11_bursts_4 : decode cX11_bursts 4 = .ok (.iload_n 1, 1) := by decide +kernel
theorem dX11_bursts_5 : decode cX11_bursts 5 = .ok (.invokevirtual 102, 3) := by decide +kernel
theorem dX11_bursts_8 : decode cX11_bursts 8 = .ok (.ifCond .eq 24, 3) := by decide +kernel
theorem dX11_bursts_11 : decode cX11_bursts 11 = .ok (.aload_n 0, 1) := by decide +kernel
theorem dX11_bursts_12 : decode cX11_bursts 12 = .ok (.getfield 62, 3) := by decide +kernel
theorem dX11_bursts_15 : decode cX11_bursts 15 = .ok (.getfield 163, 3) := by decide +kernel
theorem dX11_bursts_18 : decode cX11_bursts 18 = .ok (.aload_n 0, 1) := by decide +kernel
theorem dX11_bursts_19 : decode cX11_bursts 19 = .ok (.getfield 62, 3) := by decide +kernel
theorem dX11_bursts_22 : decode cX11_bursts 22 = .ok (.iload_n 1, 1) := by decide +kernel
theorem dX11_bursts_23 : decode cX11_bursts 23 = .ok (.invokevirtual 183, 3) := by decide +kernel
theorem dX11_bursts_26 : decode cX11_bursts 26 = .ok (.invokevirtual 186, 3) := by decide +kernel
theorem dX11_bursts_29 : decode cX11_bursts 29 = .ok (.goto 5, 3) := by decide +kernel
theorem dX11_bursts_32 : decode cX11_bursts 32 = .ok (.bipush (-2), 2) := by decide +kernel
theorem dX11_bursts_34 : decode cX11_bursts 34 = .ok (.ireturn, 1) := by decide +kernel
set_option maxRecDepth 20000 in
theorem ggX11_first_X11_firstWithout : GoodIn wsX11_first wsX11_firstWithout := goodIn_r _ [5, 6, 7, 8, 9, 10, 11, 12, 13, 4, 14, 15, 16, 17, 18, 19, 20, 21, 22, 23, 24, 25, 26, 27, 28, 29, 30, 31, 32, 33, 34, 35, 36, 37, 38, 39, 40, 41, 42, 43, 44, 45, 46, 47, 48, 49, 50, 51, 52, 53, 54, 55, 56, 57, 58, 59, 60, 61, 62, 63, 64, 65, 66, 67, 68, 69, 70, 71, 72, 73, 74, 75, 76, 77, 78, 79, 80, 81, 82, 83, 84, 85, 86, 87, 88, 89, 90, 91, 92, 93, 94, 95, 96, 97, 98, 99, 100, 101, 102, 103, 104, 105, 106, 107, 108, 109, 110, 111, 112, 113, 114, 115, 116, 117, 118, 119, 120, 121, 122, 123, 124, 125, 126, 127, 128, 129, 130, 131, 132, 133, 134, 135, 136, 137, 138, 139, 140, 141, 142, 143, 144, 145, 146, 147, 148, 149, 150, 151, 152, 153, 154, 155] (by decide +kernel) (by decide +kernel)
set_option maxRecDepth 20000 in
theorem gX11_first_X11_firstWithout : GoodIn wsX11_first (wsV RX11 189 RX11 yX11_firstWithout wsX11_firstWithout) := goodIn_app (goodIn_of _ (by decide +kernel)) ggX11_first_X11_firstWithout
theorem dX11_first_0 : decode cX11_first 0 = .ok (.aload_n 0, 1) := by decide +kernel
theorem dX11_first_1 : decode cX11_first 1 = .ok (.iconst (-1), 1) := by decide +kernel
theorem dX11_first_2 : decode cX11_first 2 = .ok (.iload_n 1, 1) := by decide +kernel
theorem dX11_first_3 : decode cX11_first 3 = .ok (.invokevirtual 189, 3) := by decide +kernel
theorem dX11_first_6 : decode cX11_first 6 = .ok (.ireturn, 1) := by decide +kernel
set_option maxRecDepth 20000 in
theorem ggX11_next_X10_pipeAt : GoodIn wsX11_next wsX10_pipeAt := goodIn_r _ [6, 7, 8, 120, 121, 122, 123, 124, 125, 126, 127, 128, 129, 130, 131] (by decide +kernel) (by decide +kernel)
set_option maxRecDepth 20000 in
theorem gX11_next_X10_pipeAt : GoodIn wsX11_next (wsV RX11 110 RX10 yX10_pipeAt wsX10_pipeAt) := goodIn_app (goodIn_of _ (by decide +kernel)) ggX11_next_X10_pipeAt
set_option maxRecDepth 20000 in
theorem ggX11_next_X10_hasPot : GoodIn wsX11_next wsX10_hasPot := goodIn_r _ [12, 13, 120, 121, 122, 123, 124, 125, 126, 127, 128, 129, 130, 131] (by decide +kernel) (by decide +kernel)
set_option maxRecDepth 20000 in
theorem gX11_next_X10_hasPot : GoodIn wsX11_next (wsV RX11 102 RX10 yX10_hasPot wsX10_hasPot) := goodIn_app (goodIn_of _ (by decide +kernel)) ggX11_next_X10_hasPot
set_option maxRecDepth 20000 in
theorem ggX11_next_X11_firstWithout : GoodIn wsX11_next wsX11_firstWithout := goodIn_r _ [18, 1, 19, 20, 21, 22, 23, 24, 25, 17, 26, 27, 28, 2, 3, 4, 5, 6, 7, 8, 29, 30, 31, 32, 33, 34, 35, 36, 37, 38, 39, 40, 41, 42, 43, 44, 45, 46, 47, 48, 49, 50, 51, 52, 53, 54, 55, 56, 57, 58, 59, 60, 61, 62, 63, 64, 65, 66, 67, 68, 69, 70, 71, 72, 73, 74, 75, 76, 77, 78, 79, 80, 81, 82, 83, 84, 85, 86, 87, 88, 89, 90, 91, 92, 93, 94, 95, 96, 97, 98, 99, 100, 101, 102, 103, 104, 105, 106, 107, 108, 109, 110, 111, 112, 113, 114, 115, 116, 117, 118, 119, 120, 121, 122, 123, 124, 125, 126, 127, 128, 129, 130, 131, 132, 133, 134, 135, 136, 137, 138, 139, 140, 141, 142, 143, 144, 145, 146, 147, 148, 149, 150, 151, 152, 153, 154, 155, 156, 157, 158, 159, 160] (by decide +kernel) (by decide +kernel)
set_option maxRecDepth 20000 in
theorem gX11_next_X11_firstWithout : GoodIn wsX11_next (wsV RX11 189 RX11 yX11_firstWithout wsX11_firstWithout) := goodIn_app (goodIn_of _ (by decide +kernel)) ggX11_next_X11_firstWithout
theorem dX11_next_0 : decode cX11_next 0 = .ok (.aload_n 0, 1) := by decide +kernel
theorem dX11_next_1 : decode cX11_next 1 = .ok (.getfield 62, 3) := by decide +kernel
theorem dX11_next_4 : decode cX11_next 4 = .ok (.iload_n 1, 1) := by decide +kernel
theorem dX11_next_5 : decode cX11_next 5 = .ok (.invokevirtual 110, 3) := by decide +kernel
theorem dX11_next_8 : decode cX11_next 8 = .ok (.ifnonnull 23, 3) := by decide +kernel
theorem dX11_next_11 : decode cX11_next 11 = .ok (.iload_n 1, 1) := by decide +kernel
theorem dX11_next_12 : decode cX11_next 12 = .ok (.bipush 100, 2) := by decide +kernel
theorem dX11_next_14 : decode cX11_next 14 = .ok (.if_icmp .lt 21, 3) := by decide +kernel
theorem dX11_next_17 : decode cX11_next 17 = .ok (.aload_n 0, 1) := by decide +kernel
theorem dX11_next_18 : decode cX11_next 18 = .ok (.getfield 62, 3) := by decide +kernel
theorem dX11_next_21 : decode cX11_next 21 = .ok (.iload_n 1, 1) := by decide +kernel
theorem dX11_next_22 : decode cX11_next 22 = .ok (.bipush 100, 2) := by decide +kernel
theorem dX11_next_24 : decode cX11_next 24 = .ok (.isub, 1) := by decide +kernel
theorem dX11_next_25 : decode cX11_next 25 = .ok (.invokevirtual 102, 3) := by decide +kernel
theorem dX11_next_28 : decode cX11_next 28 = .ok (.ifCond .eq 7, 3) := by decide +kernel
theorem dX11_next_31 : decode cX11_next 31 = .ok (.iconst 1, 1) := by decide +kernel
theorem dX11_next_32 : decode cX11_next 32 = .ok (.goto 4, 3) := by decide +kernel
theorem dX11_next_35 : decode cX11_next 35 = .ok (.iconst 0, 1) := by decide +kernel
theorem dX11_next_36 : decode cX11_next 36 = .ok (.istore_n 3, 1) := by decide +kernel
theorem dX11_next_37 : decode cX11_next 37 = .ok (.iload_n 3, 1) := by decide +kernel
theorem dX11_next_38 : decode cX11_next 38 = .ok (.ifCond .eq 12, 3) := by decide +kernel
theorem dX11_next_41 : decode cX11_next 41 = .ok (.aload_n 0, 1) := by decide +kernel
theorem dX11_next_42 : decode cX11_next 42 = .ok (.iload_n 1, 1) := by decide +kernel
theorem dX11_next_43 : decode cX11_next 43 = .ok (.iload_n 2, 1) := by decide +kernel
theorem dX11_next_44 : decode cX11_next 44 = .ok (.invokevirtual 189, 3) := by decide +kernel
theorem dX11_next_47 : decode cX11_next 47 = .ok (.goto 5, 3) := by decide +kernel
theorem dX11_next_50 : decode cX11_next 50 = .ok (.bipush (-2), 2) := by decide +kernel
theorem dX11_next_52 : decode cX11_next 52 = .ok (.ireturn, 1) := by decide +kernel
set_option maxRecDepth 20000 in
theorem ggX11_under_X11_isStrained : GoodIn wsX11_under wsX11_isStrained := goodIn_r _ [9, 2, 4, 10, 11, 12, 13, 14, 15, 16, 17, 18, 19, 20, 21, 22, 23, 24, 25, 26, 27, 28, 29, 30, 31, 32, 33, 34, 35, 36, 37, 38, 39, 40, 41, 42, 110, 111, 112, 113, 114, 115, 116, 117, 118, 119, 120, 133, 134, 135, 136, 137, 138, 139, 121, 122, 123, 124, 125, 126, 127, 128, 129, 130, 131, 132, 140, 141, 142, 143, 144, 145, 146, 147, 148, 149, 150, 151, 152, 153, 154, 155, 156] (by decide +kernel) (by decide +kernel)
set_option maxRecDepth 20000 in
theorem gX11_under_X11_isStrained : GoodIn wsX11_under (wsV RX11 145 RX11 yX11_isStrained wsX11_isStrained) := goodIn_app (goodIn_of _ (by decide +kernel)) ggX11_under_X11_isStrained
theorem dX11_under_0 : decode cX11_under 0 = .ok (.iload_n 2, 1) := by decide +kernel
theorem dX11_under_1 : decode cX11_under 1 = .ok (.sipush (-999), 3) := by decide +kernel
theorem dX11_under_4 : decode cX11_under 4 = .ok (.if_icmp .lt 18, 3) := by decide +kernel
theorem dX11_under_7 : decode cX11_under 7 = .ok (.iload_n 2, 1) := by decide +kernel
theorem dX11_under_8 : decode cX11_under 8 = .ok (.sipush 999, 3) := by decide +kernel
theorem dX11_under_11 : decode cX11_under 11 = .ok (.if_icmp .gt 11, 3) := by decide +kernel
theorem dX11_under_14 : decode cX11_under 14 = .ok (.aload_n 0, 1) := by decide +kernel
theorem dX11_under_15 : decode cX11_under 15 = .ok (.iload_n 1, 1) := by decide +kernel
theorem dX11_under_16 : decode cX11_under 16 = .ok (.invokevirtual 145, 3) := by decide +kernel
theorem dX11_under_19 : decode cX11_under 19 = .ok (.ifCond .ne 6, 3) := by decide +kernel
theorem dX11_under_22 : decode cX11_under 22 = .ok (.bipush (-2), 2) := by decide +kernel
theorem dX11_under_24 : decode cX11_under 24 = .ok (.ireturn, 1) := by decide +kernel
theorem dX11_under_25 : decode cX11_under 25 = .ok (.aload_n 0, 1) := by decide +kernel
theorem dX11_under_26 : decode cX11_under 26 = .ok (.getfield 39, 3) := by decide +kernel
theorem dX11_under_29 : decode cX11_under 29 = .ok (.aload_n 0, 1) := by decide +kernel
theorem dX11_under_30 : decode cX11_under 30 = .ok (.getfield 62, 3) := by decide +kernel
theorem dX11_under_33 : decode cX11_under 33 = .ok (.getfield 163, 3) := by decide +kernel
theorem dX11_under_36 : decode cX11_under 36 = .ok (.iload_n 2, 1) := by decide +kernel
theorem dX11_under_37 : decode cX11_under 37 = .ok (.sipush 999, 3) := by decide +kernel
theorem dX11_under_40 : decode cX11_under 40 = .ok (.invokevirtual 192, 3) := by decide +kernel
theorem dX11_under_43 : decode cX11_under 43 = .ok (.aload_n 0, 1) := by decide +kernel
theorem dX11_under_44 : decode cX11_under 44 = .ok (.getfield 32, 3) := by decide +kernel
theorem dX11_under_47 : decode cX11_under 47 = .ok (.aload_n 0, 1) := by decide +kernel
theorem dX11_under_48 : decode cX11_under 48 = .ok (.getfield 39, 3) := by decide +kernel
theorem dX11_under_51 : decode cX11_under 51 = .ok (.invokevirtual 176, 3) := by decide +kernel
theorem dX11_under_54 : decode cX11_under 54 = .ok (.ireturn, 1) := by decide +kernel
set_option maxRecDepth 20000 in
theorem ggX11_stay_X11_isStrained : GoodIn wsX11_stay wsX11_isStrained := goodIn_r _ [9, 3, 1, 10, 11, 12, 13, 14, 15, 16, 17, 18, 19, 20, 21, 22, 23, 24, 25, 26, 27, 28, 29, 30, 31, 32, 33, 34, 35, 36, 37, 38, 39, 40, 41, 42, 86, 87, 88, 89, 90, 91, 92, 93, 94, 95, 96, 115, 116, 117, 118, 119, 120, 121, 103, 104, 105, 106, 107, 108, 109, 110, 111, 112, 113, 114, 97, 98, 99, 100, 101, 102, 122, 123, 124, 125, 126, 127, 128, 129, 130, 131, 132] (by decide +kernel) (by decide +kernel)
set_option maxRecDepth 20000 in
theorem gX11_stay_X11_isStrained : GoodIn wsX11_stay (wsV RX11 145 RX11 yX11_isStrained wsX11_isStrained) := goodIn_app (goodIn_of _ (by decide +kernel)) ggX11_stay_X11_isStrained
theorem dX11_stay_0 : decode cX11_stay 0 = .ok (.aload_n 0, 1) := by decide +kernel
theorem dX11_stay_1 : decode cX11_stay 1 = .ok (.iload_n 1, 1) := by decide +kernel
theorem dX11_stay_2 : decode cX11_stay 2 = .ok (.invokevirtual 145, 3) := by decide +kernel
theorem dX11_stay_5 : decode cX11_stay 5 = .ok (.ifCond .ne 6, 3) := by decide +kernel
theorem dX11_stay_8 : decode cX11_stay 8 = .ok (.bipush (-2), 2) := by decide +kernel
theorem dX11_stay_10 : decode cX11_stay 10 = .ok (.ireturn, 1) := by decide +kernel
theorem dX11_stay_11 : decode cX11_stay 11 = .ok (.aload_n 0, 1) := by decide +kernel
theorem dX11_stay_12 : decode cX11_stay 12 = .ok (.getfield 32, 3) := by decide +kernel
theorem dX11_stay_15 : decode cX11_stay 15 = .ok (.getfield 196, 3) := by decide +kernel
theorem dX11_stay_18 : decode cX11_stay 18 = .ok (.lstore_n 2, 1) := by decide +kernel
theorem dX11_stay_19 : decode cX11_stay 19 = .ok (.iconst 0, 1) := by decide +kernel
theorem dX11_stay_20 : decode cX11_stay 20 = .ok (.istore 4, 2) := by decide +kernel
theorem dX11_stay_22 : decode cX11_stay 22 = .ok (.sipush 30001, 3) := by decide +kernel
theorem dX11_stay_25 : decode cX11_stay 25 = .ok (.istore 5, 2) := by decide +kernel
theorem dX11_stay_27 : decode cX11_stay 27 = .ok (.iconst 0, 1) := by decide +kernel
theorem dX11_stay_28 : decode cX11_stay 28 = .ok (.istore 6, 2) := by decide +kernel
theorem dX11_stay_30 : decode cX11_stay 30 = .ok (.iload 6, 2) := by decide +kernel
theorem dX11_stay_32 : decode cX11_stay 32 = .ok (.bipush 40, 2) := by decide +kernel
theorem dX11_stay_34 : decode cX11_stay 34 = .ok (.if_icmp .ge 76, 3) := by decide +kernel
theorem dX11_stay_37 : decode cX11_stay 37 = .ok (.iload 4, 2) := by decide +kernel
theorem dX11_stay_39 : decode cX11_stay 39 = .ok (.iload 5, 2) := by decide +kernel
theorem dX11_stay_41 : decode cX11_stay 41 = .ok (.if_icmp .ge 69, 3) := by decide +kernel
theorem dX11_stay_44 : decode cX11_stay 44 = .ok (.iload 4, 2) := by decide +kernel
theorem dX11_stay_46 : decode cX11_stay 46 = .ok (.iload 5, 2) := by decide +kernel
theorem dX11_stay_48 : decode cX11_stay 48 = .ok (.iadd, 1) := by decide +kernel
theorem dX11_stay_49 : decode cX11_stay 49 = .ok (.iconst 2, 1) := by decide +kernel
theorem dX11_stay_50 : decode cX11_stay 50 = .ok (.idiv, 1) := by decide +kernel
theorem dX11_stay_51 : decode cX11_stay 51 = .ok (.istore 7, 2) := by decide +kernel
theorem dX11_stay_53 : decode cX11_stay 53 = .ok (.aload_n 0, 1) := by decide +kernel
theorem dX11_stay_54 : decode cX11_stay 54 = .ok (.getfield 32, 3) := by decide +kernel
theorem dX11_stay_57 : decode cX11_stay 57 = .ok (.lload_n 2, 1) := by decide +kernel
theorem dX11_stay_58 : decode cX11_stay 58 = .ok (.iload 7, 2) := by decide +kernel
theorem dX11_stay_60 : decode cX11_stay 60 = .ok (.i2l, 1) := by decide +kernel
theorem dX11_stay_61 : decode cX11_stay 61 = .ok (.ladd, 1) := by decide +kernel
theorem dX11_stay_62 : decode cX11_stay 62 = .ok (.putfield 196, 3) := by decide +kernel
theorem dX11_stay_65 : decode cX11_stay 65 = .ok (.iload 7, 2) := by decide +kernel
theorem dX11_stay_67 : decode cX11_stay 67 = .ok (.sipush 30000, 3) := by decide +kernel
theorem dX11_stay_70 : decode cX11_stay 70 = .ok (.if_icmp .gt 21, 3) := by decide +kernel
theorem dX11_stay_73 : decode cX11_stay 73 = .ok (.aload_n 0, 1) := by decide +kernel
theorem dX11_stay_74 : decode cX11_stay 74 = .ok (.getfield 32, 3) := by decide +kernel
theorem dX11_stay_77 : decode cX11_stay 77 = .ok (.aload_n 0, 1) := by decide +kernel
theorem dX11_stay_78 : decode cX11_stay 78 = .ok (.getfield 62, 3) := by decide +kernel
theorem dX11_stay_81 : decode cX11_stay 81 = .ok (.getfield 163, 3) := by decide +kernel
theorem dX11_stay_84 : decode cX11_stay 84 = .ok (.invokevirtual 176, 3) := by decide +kernel
theorem dX11_stay_87 : decode cX11_stay 87 = .ok (.iconst (-1), 1) := by decide +kernel
theorem dX11_stay_88 : decode cX11_stay 88 = .ok (.if_icmp .ne 10, 3) := by decide +kernel
theorem dX11_stay_91 : decode cX11_stay 91 = .ok (.iload 7, 2) := by decide +kernel
theorem dX11_stay_93 : decode cX11_stay 93 = .ok (.istore 5, 2) := by decide +kernel
theorem dX11_stay_95 : decode cX11_stay 95 = .ok (.goto 9, 3) := by decide +kernel
theorem dX11_stay_98 : decode cX11_stay 98 = .ok (.iload 7, 2) := by decide +kernel
theorem dX11_stay_100 : decode cX11_stay 100 = .ok (.iconst 1, 1) := by decide +kernel
theorem dX11_stay_101 : decode cX11_stay 101 = .ok (.iadd, 1) := by decide +kernel
theorem dX11_stay_102 : decode cX11_stay 102 = .ok (.istore 4, 2) := by decide +kernel
theorem dX11_stay_104 : decode cX11_stay 104 = .ok (.iinc 6 1, 3) := by decide +kernel
theorem dX11_stay_107 : decode cX11_stay 107 = .ok (.goto (-77), 3) := by decide +kernel
theorem dX11_stay_110 : decode cX11_stay 110 = .ok (.iload 4, 2) := by decide +kernel
theorem dX11_stay_112 : decode cX11_stay 112 = .ok (.sipush 30000, 3) := by decide +kernel
theorem dX11_stay_115 : decode cX11_stay 115 = .ok (.if_icmp .le 7, 3) := by decide +kernel
theorem dX11_stay_118 : decode cX11_stay 118 = .ok (.iconst (-1), 1) := by decide +kernel
theorem dX11_stay_119 : decode cX11_stay 119 = .ok (.goto 5, 3) := by decide +kernel
theorem dX11_stay_122 : decode cX11_stay 122 = .ok (.iload 4, 2) := by decide +kernel
theorem dX11_stay_124 : decode cX11_stay 124 = .ok (.ireturn, 1) := by decide +kernel
set_option maxRecDepth 20000 in
theorem ggX11_cap_X11_isStrained : GoodIn wsX11_cap wsX11_isStrained := goodIn_r _ [9, 2, 4, 10, 11, 12, 13, 14, 15, 16, 17, 18, 19, 20, 21, 22, 23, 24, 25, 26, 27, 28, 29, 30, 31, 32, 33, 34, 35, 36, 37, 38, 39, 40, 41, 42, 110, 111, 112, 113, 114, 115, 116, 117, 118, 119, 120, 133, 134, 135, 136, 137, 138, 139, 121, 122, 123, 124, 125, 126, 127, 128, 129, 130, 131, 132, 140, 141, 142, 143, 144, 145, 146, 147, 148, 149, 150, 151, 152, 153, 154, 155, 156] (by decide +kernel) (by decide +kernel)
set_option maxRecDepth 20000 in
theorem gX11_cap_X11_isStrained : GoodIn wsX11_cap (wsV RX11 145 RX11 yX11_isStrained wsX11_isStrained) := goodIn_app (goodIn_of _ (by decide +kernel)) ggX11_cap_X11_isStrained
theorem dX11_cap_0 : decode cX11_cap 0 = .ok (.aload_n 0, 1) := by decide +kernel
theorem dX11_cap_1 : decode cX11_cap 1 = .ok (.iload_n 1, 1) := by decide +kernel
theorem dX11_cap_2 : decode cX11_cap 2 = .ok (.invokevirtual 145, 3) := by decide +kernel
theorem dX11_cap_5 : decode cX11_cap 5 = .ok (.ifCond .ne 6, 3) := by decide +kernel
theorem dX11_cap_8 : decode cX11_cap 8 = .ok (.bipush (-2), 2) := by decide +kernel
theorem dX11_cap_10 : decode cX11_cap 10 = .ok (.ireturn, 1) := by decide +kernel
theorem dX11_cap_11 : decode cX11_cap 11 = .ok (.iconst (-1), 1) := by decide +kernel
theorem dX11_cap_12 : decode cX11_cap 12 = .ok (.istore_n 2, 1) := by decide +kernel
theorem dX11_cap_13 : decode cX11_cap 13 = .ok (.sipush 999, 3) := by decide +kernel
theorem dX11_cap_16 : decode cX11_cap 16 = .ok (.istore_n 3, 1) := by decide +kernel
theorem dX11_cap_17 : decode cX11_cap 17 = .ok (.iconst 0, 1) := by decide +kernel
theorem dX11_cap_18 : decode cX11_cap 18 = .ok (.istore 4, 2) := by decide +kernel
theorem dX11_cap_20 : decode cX11_cap 20 = .ok (.iload 4, 2) := by decide +kernel
theorem dX11_cap_22 : decode cX11_cap 22 = .ok (.bipush 40, 2) := by decide +kernel
theorem dX11_cap_24 : decode cX11_cap 24 = .ok (.if_icmp .ge 66, 3) := by decide +kernel
theorem dX11_cap_27 : decode cX11_cap 27 = .ok (.iload_n 2, 1) := by decide +kernel
theorem dX11_cap_28 : decode cX11_cap 28 = .ok (.iload_n 3, 1) := by decide +kernel
theorem dX11_cap_29 : decode cX11_cap 29 = .ok (.if_icmp .ge 61, 3) := by decide +kernel
theorem dX11_cap_32 : decode cX11_cap 32 = .ok (.iload_n 3, 1) := by decide +kernel
theorem dX11_cap_33 : decode cX11_cap 33 = .ok (.iload_n 3, 1) := by decide +kernel
theorem dX11_cap_34 : decode cX11_cap 34 = .ok (.iload_n 2, 1) := by decide +kernel
theorem dX11_cap_35 : decode cX11_cap 35 = .ok (.isub, 1) := by decide +kernel
theorem dX11_cap_36 : decode cX11_cap 36 = .ok (.iconst 2, 1) := by decide +kernel
theorem dX11_cap_37 : decode cX11_cap 37 = .ok (.idiv, 1) := by decide +kernel
theorem dX11_cap_38 : decode cX11_cap 38 = .ok (.isub, 1) := by decide +kernel
theorem dX11_cap_39 : decode cX11_cap 39 = .ok (.istore 5, 2) := by decide +kernel
theorem dX11_cap_41 : decode cX11_cap 41 = .ok (.aload_n 0, 1) := by decide +kernel
theorem dX11_cap_42 : decode cX11_cap 42 = .ok (.getfield 39, 3) := by decide +kernel
theorem dX11_cap_45 : decode cX11_cap 45 = .ok (.aload_n 0, 1) := by decide +kernel
theorem dX11_cap_46 : decode cX11_cap 46 = .ok (.getfield 62, 3) := by decide +kernel
theorem dX11_cap_49 : decode cX11_cap 49 = .ok (.getfield 163, 3) := by decide +kernel
theorem dX11_cap_52 : decode cX11_cap 52 = .ok (.iconst 0, 1) := by decide +kernel
theorem dX11_cap_53 : decode cX11_cap 53 = .ok (.iload 5, 2) := by decide +kernel
theorem dX11_cap_55 : decode cX11_cap 55 = .ok (.invokevirtual 192, 3) := by decide +kernel
theorem dX11_cap_58 : decode cX11_cap 58 = .ok (.aload_n 0, 1) := by decide +kernel
theorem dX11_cap_59 : decode cX11_cap 59 = .ok (.getfield 32, 3) := by decide +kernel
theorem dX11_cap_62 : decode cX11_cap 62 = .ok (.aload_n 0, 1) := by decide +kernel
theorem dX11_cap_63 : decode cX11_cap 63 = .ok (.getfield 39, 3) := by decide +kernel
theorem dX11_cap_66 : decode cX11_cap 66 = .ok (.invokevirtual 176, 3) := by decide +kernel
theorem dX11_cap_69 : decode cX11_cap 69 = .ok (.iconst (-1), 1) := by decide +kernel
theorem dX11_cap_70 : decode cX11_cap 70 = .ok (.if_icmp .ne 9, 3) := by decide +kernel
theorem dX11_cap_73 : decode cX11_cap 73 = .ok (.iload 5, 2) := by decide +kernel
theorem dX11_cap_75 : decode cX11_cap 75 = .ok (.istore_n 2, 1) := by decide +kernel
theorem dX11_cap_76 : decode cX11_cap 76 = .ok (.goto 8, 3) := by decide +kernel
theorem dX11_cap_79 : decode cX11_cap 79 = .ok (.iload 5, 2) := by decide +kernel
theorem dX11_cap_81 : decode cX11_cap 81 = .ok (.iconst 1, 1) := by decide +kernel
theorem dX11_cap_82 : decode cX11_cap 82 = .ok (.isub, 1) := by decide +kernel
theorem dX11_cap_83 : decode cX11_cap 83 = .ok (.istore_n 3, 1) := by decide +kernel
theorem dX11_cap_84 : decode cX11_cap 84 = .ok (.iinc 4 1, 3) := by decide +kernel
theorem dX11_cap_87 : decode cX11_cap 87 = .ok (.goto (-67), 3) := by decide +kernel
theorem dX11_cap_90 : decode cX11_cap 90 = .ok (.iload_n 2, 1) := by decide +kernel
theorem dX11_cap_91 : decode cX11_cap 91 = .ok (.ireturn, 1) := by decide +kernel
set_option maxRecDepth 20000 in
theorem ggX11_prop_X10_pipeAt : GoodIn wsX11_prop wsX10_pipeAt := goodIn_r _ [9, 10, 11, 97, 98, 99, 100, 101, 102, 103, 104, 105, 106, 107, 108] (by decide +kernel) (by decide +kernel)
set_option maxRecDepth 20000 in
theorem gX11_prop_X10_pipeAt : GoodIn wsX11_prop (wsV RX11 110 RX10 yX10_pipeAt wsX10_pipeAt) := goodIn_app (goodIn_of _ (by decide +kernel)) ggX11_prop_X10_pipeAt
theorem dX11_prop_0 : decode cX11_prop 0 = .ok (.aload_n 0, 1) := by decide +kernel
theorem dX11_prop_1 : decode cX11_prop 1 = .ok (.getfield 62, 3) := by decide +kernel
theorem dX11_prop_4 : decode cX11_prop 4 = .ok (.iload_n 1, 1) := by decide +kernel
theorem dX11_prop_5 : decode cX11_prop 5 = .ok (.invokevirtual 110, 3) := by decide +kernel
theorem dX11_prop_8 : decode cX11_prop 8 = .ok (.astore_n 3, 1) := by decide +kernel
theorem dX11_prop_9 : decode cX11_prop 9 = .ok (.aload_n 3, 1) := by decide +kernel
theorem dX11_prop_10 : decode cX11_prop 10 = .ok (.ifnonnull 6, 3) := by decide +kernel
theorem dX11_prop_13 : decode cX11_prop 13 = .ok (.bipush (-2), 2) := by decide +kernel
theorem dX11_prop_15 : decode cX11_prop 15 = .ok (.ireturn, 1) := by decide +kernel
theorem dX11_prop_16 : decode cX11_prop 16 = .ok (.aload_n 0, 1) := by decide +kernel
theorem dX11_prop_17 : decode cX11_prop 17 = .ok (.getfield 32, 3) := by decide +kernel
theorem dX11_prop_20 : decode cX11_prop 20 = .ok (.aload_n 3, 1) := by decide +kernel
theorem dX11_prop_21 : decode cX11_prop 21 = .ok (.aload_n 3, 1) := by decide +kernel
theorem dX11_prop_22 : decode cX11_prop 22 = .ok (.getfield 131, 3) := by decide +kernel
theorem dX11_prop_25 : decode cX11_prop 25 = .ok (.iload_n 2, 1) := by decide +kernel
theorem dX11_prop_26 : decode cX11_prop 26 = .ok (.invokevirtual 199, 3) := by decide +kernel
theorem dX11_prop_29 : decode cX11_prop 29 = .ok (.aload_n 0, 1) := by decide +kernel
theorem dX11_prop_30 : decode cX11_prop 30 = .ok (.getfield 32, 3) := by decide +kernel
theorem dX11_prop_33 : decode cX11_prop 33 = .ok (.aload_n 0, 1) := by decide +kernel
theorem dX11_prop_34 : decode cX11_prop 34 = .ok (.getfield 62, 3) := by decide +kernel
theorem dX11_prop_37 : decode cX11_prop 37 = .ok (.getfield 163, 3) := by decide +kernel
theorem dX11_prop_40 : decode cX11_prop 40 = .ok (.invokevirtual 176, 3) := by decide +kernel
theorem dX11_prop_43 : decode cX11_prop 43 = .ok (.ireturn, 1) := by decide +kernel
set_option maxRecDepth 20000 in
theorem ggX11_widen_X10_pipeAt : GoodIn wsX11_widen wsX10_pipeAt := goodIn_r _ [9, 10, 11, 97, 98, 99, 100, 101, 102, 103, 104, 105, 106, 107, 108] (by decide +kernel) (by decide +kernel)
set_option maxRecDepth 20000 in
theorem gX11_widen_X10_pipeAt : GoodIn wsX11_widen (wsV RX11 110 RX10 yX10_pipeAt wsX10_pipeAt) := goodIn_app (goodIn_of _ (by decide +kernel)) ggX11_widen_X10_pipeAt
theorem dX11_widen_0 : decode cX11_widen 0 = .ok (.aload_n 0, 1) := by decide +kernel
theorem dX11_widen_1 : decode cX11_widen 1 = .ok (.getfield 62, 3) := by decide +kernel
theorem dX11_widen_4 : decode cX11_widen 4 = .ok (.iload_n 1, 1) := by decide +kernel
theorem dX11_widen_5 : decode cX11_widen 5 = .ok (.invokevirtual 110, 3) := by decide +kernel
theorem dX11_widen_8 : decode cX11_widen 8 = .ok (.astore_n 3, 1) := by decide +kernel
theorem dX11_widen_9 : decode cX11_widen 9 = .ok (.aload_n 3, 1) := by decide +kernel
theorem dX11_widen_10 : decode cX11_widen 10 = .ok (.ifnull 14, 3) := by decide +kernel
theorem dX11_widen_13 : decode cX11_widen 13 = .ok (.iload_n 2, 1) := by decide +kernel
theorem dX11_widen_14 : decode cX11_widen 14 = .ok (.iconst 1, 1) := by decide +kernel
theorem dX11_widen_15 : decode cX11_widen 15 = .ok (.if_icmp .lt 9, 3) := by decide +kernel
theorem dX11_widen_18 : decode cX11_widen 18 = .ok (.iload_n 2, 1) := by decide +kernel
theorem dX11_widen_19 : decode cX11_widen 19 = .ok (.bipush 40, 2) := by decide +kernel
theorem dX11_widen_21 : decode cX11_widen 21 = .ok (.if_icmp .le 6, 3) := by decide +kernel
theorem dX11_widen_24 : decode cX11_widen 24 = .ok (.bipush (-2), 2) := by decide +kernel
theorem dX11_widen_26 : decode cX11_widen 26 = .ok (.ireturn, 1) := by decide +kernel
theorem dX11_widen_27 : decode cX11_widen 27 = .ok (.aload_n 0, 1) := by decide +kernel
theorem dX11_widen_28 : decode cX11_widen 28 = .ok (.getfield 32, 3) := by decide +kernel
theorem dX11_widen_31 : decode cX11_widen 31 = .ok (.aload_n 3, 1) := by decide +kernel
theorem dX11_widen_32 : decode cX11_widen 32 = .ok (.iload_n 2, 1) := by decide +kernel
theorem dX11_widen_33 : decode cX11_widen 33 = .ok (.aload_n 3, 1) := by decide +kernel
theorem dX11_widen_34 : decode cX11_widen 34 = .ok (.getfield 203, 3) := by decide +kernel
theorem dX11_widen_37 : decode cX11_widen 37 = .ok (.invokevirtual 199, 3) := by decide +kernel
theorem dX11_widen_40 : decode cX11_widen 40 = .ok (.aload_n 0, 1) := by decide +kernel
theorem dX11_widen_41 : decode cX11_widen 41 = .ok (.getfield 32, 3) := by decide +kernel
theorem dX11_widen_44 : decode cX11_widen 44 = .ok (.aload_n 0, 1) := by decide +kernel
theorem dX11_widen_45 : decode cX11_widen 45 = .ok (.getfield 62, 3) := by decide +kernel
theorem dX11_widen_48 : decode cX11_widen 48 = .ok (.getfield 163, 3) := by decide +kernel
theorem dX11_widen_51 : decode cX11_widen 51 = .ok (.invokevirtual 176, 3) := by decide +kernel
theorem dX11_widen_54 : decode cX11_widen 54 = .ok (.ireturn, 1) := by decide +kernel
set_option maxRecDepth 20000 in
theorem ggX11_lever_X11_slotAt : GoodIn wsX11_lever wsX11_slotAt := goodIn_r _ [10, 11, 77, 78, 79, 80, 81, 82, 83, 84, 85, 86, 87] (by decide +kernel) (by decide +kernel)
set_option maxRecDepth 20000 in
theorem gX11_lever_X11_slotAt : GoodIn wsX11_lever (wsV RX11 207 RX11 yX11_slotAt wsX11_slotAt) := goodIn_app (goodIn_of _ (by decide +kernel)) ggX11_lever_X11_slotAt
set_option maxRecDepth 20000 in
theorem ggX11_lever_X10_pipeAt : GoodIn wsX11_lever wsX10_pipeAt := goodIn_r _ [16, 17, 18, 99, 100, 101, 102, 103, 104, 105, 106, 107, 108, 109, 110] (by decide +kernel) (by decide +kernel)
set_option maxRecDepth 20000 in
theorem gX11_lever_X10_pipeAt : GoodIn wsX11_lever (wsV RX11 110 RX10 yX10_pipeAt wsX10_pipeAt) := goodIn_app (goodIn_of _ (by decide +kernel)) ggX11_lever_X10_pipeAt
theorem dX11_lever_0 : decode cX11_lever 0 = .ok (.aload_n 0, 1) := by decide +kernel
theorem dX11_lever_1 : decode cX11_lever 1 = .ok (.iload_n 1, 1) := by decide +kernel
theorem dX11_lever_2 : decode cX11_lever 2 = .ok (.invokevirtual 207, 3) := by decide +kernel
theorem dX11_lever_5 : decode cX11_lever 5 = .ok (.astore_n 3, 1) := by decide +kernel
theorem dX11_lever_6 : decode cX11_lever 6 = .ok (.aload_n 0, 1) := by decide +kernel
theorem dX11_lever_7 : decode cX11_lever 7 = .ok (.getfield 62, 3) := by decide +kernel
theorem dX11_lever_10 : decode cX11_lever 10 = .ok (.iload_n 2, 1) := by decide +kernel
theorem dX11_lever_11 : decode cX11_lever 11 = .ok (.invokevirtual 110, 3) := by decide +kernel
theorem dX11_lever_14 : decode cX11_lever 14 = .ok (.astore 4, 2) := by decide +kernel
theorem dX11_lever_16 : decode cX11_lever 16 = .ok (.aload_n 3, 1) := by decide +kernel
theorem dX11_lever_17 : decode cX11_lever 17 = .ok (.ifnull 8, 3) := by decide +kernel
theorem dX11_lever_20 : decode cX11_lever 20 = .ok (.aload 4, 2) := by decide +kernel
theorem dX11_lever_22 : decode cX11_lever 22 = .ok (.ifnonnull 6, 3) := by decide +kernel
theorem dX11_lever_25 : decode cX11_lever 25 = .ok (.bipush (-2), 2) := by decide +kernel
theorem dX11_lever_27 : decode cX11_lever 27 = .ok (.ireturn, 1) := by decide +kernel
theorem dX11_lever_28 : decode cX11_lever 28 = .ok (.aload_n 3, 1) := by decide +kernel
theorem dX11_lever_29 : decode cX11_lever 29 = .ok (.getfield 211, 3) := by decide +kernel
theorem dX11_lever_32 : decode cX11_lever 32 = .ok (.ifCond .ne 6, 3) := by decide +kernel
theorem dX11_lever_35 : decode cX11_lever 35 = .ok (.bipush (-6), 2) := by decide +kernel
theorem dX11_lever_37 : decode cX11_lever 37 = .ok (.ireturn, 1) := by decide +kernel
theorem dX11_lever_38 : decode cX11_lever 38 = .ok (.aload_n 0, 1) := by decide +kernel
theorem dX11_lever_39 : decode cX11_lever 39 = .ok (.getfield 46, 3) := by decide +kernel
theorem dX11_lever_42 : decode cX11_lever 42 = .ok (.aload_n 3, 1) := by decide +kernel
theorem dX11_lever_43 : decode cX11_lever 43 = .ok (.invokevirtual 214, 3) := by decide +kernel
theorem dX11_lever_46 : decode cX11_lever 46 = .ok (.ifCond .ne 6, 3) := by decide +kernel
theorem dX11_lever_49 : decode cX11_lever 49 = .ok (.bipush (-2), 2) := by decide +kernel
theorem dX11_lever_51 : decode cX11_lever 51 = .ok (.ireturn, 1) := by decide +kernel
theorem dX11_lever_52 : decode cX11_lever 52 = .ok (.aload_n 0, 1) := by decide +kernel
theorem dX11_lever_53 : decode cX11_lever 53 = .ok (.getfield 62, 3) := by decide +kernel
theorem dX11_lever_56 : decode cX11_lever 56 = .ok (.aload_n 0, 1) := by decide +kernel
theorem dX11_lever_57 : decode cX11_lever 57 = .ok (.getfield 46, 3) := by decide +kernel
theorem dX11_lever_60 : decode cX11_lever 60 = .ok (.aload 4, 2) := by decide +kernel
theorem dX11_lever_62 : decode cX11_lever 62 = .ok (.getfield 114, 3) := by decide +kernel
theorem dX11_lever_65 : decode cX11_lever 65 = .ok (.aload 4, 2) := by decide +kernel
theorem dX11_lever_67 : decode cX11_lever 67 = .ok (.getfield 119, 3) := by decide +kernel
theorem dX11_lever_70 : decode cX11_lever 70 = .ok (.invokevirtual 218, 3) := by decide +kernel
theorem dX11_lever_73 : decode cX11_lever 73 = .ok (.ifCond .eq 13, 3) := by decide +kernel
theorem dX11_lever_76 : decode cX11_lever 76 = .ok (.aload_n 0, 1) := by decide +kernel
theorem dX11_lever_77 : decode cX11_lever 77 = .ok (.getfield 46, 3) := by decide +kernel
theorem dX11_lever_80 : decode cX11_lever 80 = .ok (.invokevirtual 134, 3) := by decide +kernel
theorem dX11_lever_83 : decode cX11_lever 83 = .ok (.goto 5, 3) := by decide +kernel
theorem dX11_lever_86 : decode cX11_lever 86 = .ok (.bipush (-5), 2) := by decide +kernel
theorem dX11_lever_88 : decode cX11_lever 88 = .ok (.ireturn, 1) := by decide +kernel
set_option maxRecDepth 20000 in
theorem ggX11_trial_X11_isPress : GoodIn wsX11_trial wsX11_isPress := goodIn_r _ [6] (by decide +kernel) (by decide +kernel)
set_option maxRecDepth 20000 in
theorem gX11_trial_X11_isPress : GoodIn wsX11_trial (va_wsS RX11 148 yX11_isPress wsX11_isPress) := goodIn_app (goodIn_of _ (by decide +kernel)) ggX11_trial_X11_isPress
theorem dX11_trial_0 : decode cX11_trial 0 = .ok (.iload_n 1, 1) := by decide +kernel
theorem dX11_trial_1 : decode cX11_trial 1 = .ok (.invokestatic 148, 3) := by decide +kernel
theorem dX11_trial_4 : decode cX11_trial 4 = .ok (.ifCond .ne 6, 3) := by decide +kernel
theorem dX11_trial_7 : decode cX11_trial 7 = .ok (.bipush (-2), 2) := by decide +kernel
theorem dX11_trial_9 : decode cX11_trial 9 = .ok (.ireturn, 1) := by decide +kernel
theorem dX11_trial_10 : decode cX11_trial 10 = .ok (.iconst 0, 1) := by decide +kernel
theorem dX11_trial_11 : decode cX11_trial 11 = .ok (.istore_n 2, 1) := by decide +kernel
theorem dX11_trial_12 : decode cX11_trial 12 = .ok (.iconst 0, 1) := by decide +kernel
theorem dX11_trial_13 : decode cX11_trial 13 = .ok (.istore_n 3, 1) := by decide +kernel
theorem dX11_trial_14 : decode cX11_trial 14 = .ok (.iload_n 3, 1) := by decide +kernel
theorem dX11_trial_15 : decode cX11_trial 15 = .ok (.aload_n 0, 1) := by decide +kernel
theorem dX11_trial_16 : decode cX11_trial 16 = .ok (.getfield 62, 3) := by decide +kernel
theorem dX11_trial_19 : decode cX11_trial 19 = .ok (.getfield 222, 3) := by decide +kernel
theorem dX11_trial_22 : decode cX11_trial 22 = .ok (.if_icmp .ge 31, 3) := by decide +kernel
theorem dX11_trial_25 : decode cX11_trial 25 = .ok (.aload_n 0, 1) := by decide +kernel
theorem dX11_trial_26 : decode cX11_trial 26 = .ok (.iload_n 3, 1) := by decide +kernel
theorem dX11_trial_27 : decode cX11_trial 27 = .ok (.invokevirtual 225, 3) := by decide +kernel
theorem dX11_trial_30 : decode cX11_trial 30 = .ok (.istore 4, 2) := by decide +kernel
theorem dX11_trial_32 : decode cX11_trial 32 = .ok (.iload 4, 2) := by decide +kernel
theorem dX11_trial_34 : decode cX11_trial 34 = .ok (.iconst (-1), 1) := by decide +kernel
theorem dX11_trial_35 : decode cX11_trial 35 = .ok (.if_icmp .eq 12, 3) := by decide +kernel
theorem dX11_trial_38 : decode cX11_trial 38 = .ok (.iload 4, 2) := by decide +kernel
theorem dX11_trial_40 : decode cX11_trial 40 = .ok (.iload_n 1, 1) := by decide +kernel
theorem dX11_trial_41 : decode cX11_trial 41 = .ok (.if_icmp .gt 6, 3) := by decide +kernel
theorem dX11_trial_44 : decode cX11_trial 44 = .ok (.iinc 2 1, 3) := by decide +kernel
theorem dX11_trial_47 : decode cX11_trial 47 = .ok (.iinc 3 1, 3) := by decide +kernel
theorem dX11_trial_50 : decode cX11_trial 50 = .ok (.goto (-36), 3) := by decide +kernel
theorem dX11_trial_53 : decode cX11_trial 53 = .ok (.iload_n 2, 1) := by decide +kernel
theorem dX11_trial_54 : decode cX11_trial 54 = .ok (.ireturn, 1) := by decide +kernel
theorem dX11_show_0 : decode cX11_show 0 = .ok (.iconst 0, 1) := by decide +kernel
theorem dX11_show_1 : decode cX11_show 1 = .ok (.istore_n 1, 1) := by decide +kernel
theorem dX11_show_2 : decode cX11_show 2 = .ok (.iconst 0, 1) := by decide +kernel
theorem dX11_show_3 : decode cX11_show 3 = .ok (.istore_n 2, 1) := by decide +kernel
theorem dX11_show_4 : decode cX11_show 4 = .ok (.iload_n 2, 1) := by decide +kernel
theorem dX11_show_5 : decode cX11_show 5 = .ok (.aload_n 0, 1) := by decide +kernel
theorem dX11_show_6 : decode cX11_show 6 = .ok (.getfield 62, 3) := by decide +kernel
theorem dX11_show_9 : decode cX11_show 9 = .ok (.getfield 222, 3) := by decide +kernel
theorem dX11_show_12 : decode cX11_show 12 = .ok (.if_icmp .ge 19, 3) := by decide +kernel
theorem dX11_show_15 : decode cX11_show 15 = .ok (.iload_n 1, 1) := by decide +kernel
theorem dX11_show_16 : decode cX11_show 16 = .ok (.aload_n 0, 1) := by decide +kernel
theorem dX11_show_17 : decode cX11_show 17 = .ok (.iload_n 2, 1) := by decide +kernel
theorem dX11_show_18 : decode cX11_show 18 = .ok (.invokevirtual 225, 3) := by decide +kernel
theorem dX11_show_21 : decode cX11_show 21 = .ok (.invokestatic 228, 3) := by decide +kernel
theorem dX11_show_24 : decode cX11_show 24 = .ok (.istore_n 1, 1) := by decide +kernel
theorem dX11_show_25 : decode cX11_show 25 = .ok (.iinc 2 1, 3) := by decide +kernel
theorem dX11_show_28 : decode cX11_show 28 = .ok (.goto (-24), 3) := by decide +kernel
theorem dX11_show_31 : decode cX11_show 31 = .ok (.iload_n 1, 1) := by decide +kernel
theorem dX11_show_32 : decode cX11_show 32 = .ok (.ireturn, 1) := by decide +kernel
set_option maxRecDepth 20000 in
theorem ggX11_reach_X11_isClouded : GoodIn wsX11_reach wsX11_isClouded := goodIn_r _ [6, 7, 8, 1, 9, 10, 11, 12, 13, 14, 15, 16, 17, 18, 19, 20, 21, 22, 23, 24, 25, 26, 27, 28, 29, 30, 31, 32, 33, 34, 35, 36, 37, 38, 39, 40, 41, 42, 43, 44, 45, 46, 47, 48, 49, 50, 51, 52, 53, 54, 55, 56, 57, 58, 59, 60, 61, 66, 67, 68, 69, 70, 71, 72, 73, 74, 75, 76, 77, 78, 79, 80, 81, 82, 83, 84, 85, 86, 87, 88, 89, 90, 91, 92, 93, 94, 95, 96, 97, 98, 99, 100, 101, 102, 103, 104, 105, 106, 107, 108] (by decide +kernel) (by decide +kernel)
set_option maxRecDepth 20000 in
theorem gX11_reach_X11_isClouded : GoodIn wsX11_reach (wsV RX11 233 RX11 yX11_isClouded wsX11_isClouded) := goodIn_app (goodIn_of _ (by decide +kernel)) ggX11_reach_X11_isClouded
theorem dX11_reach_0 : decode cX11_reach 0 = .ok (.iload_n 3, 1) := by decide +kernel
theorem dX11_reach_1 : decode cX11_reach 1 = .ok (.iconst 1, 1) := by decide +kernel
theorem dX11_reach_2 : decode cX11_reach 2 = .ok (.if_icmp .lt 18, 3) := by decide +kernel
theorem dX11_reach_5 : decode cX11_reach 5 = .ok (.iload_n 3, 1) := by decide +kernel
theorem dX11_reach_6 : decode cX11_reach 6 = .ok (.bipush 60, 2) := by decide +kernel
theorem dX11_reach_8 : decode cX11_reach 8 = .ok (.if_icmp .gt 12, 3) := by decide +kernel
theorem dX11_reach_11 : decode cX11_reach 11 = .ok (.aload_n 0, 1) := by decide +kernel
theorem dX11_reach_12 : decode cX11_reach 12 = .ok (.iload_n 1, 1) := by decide +kernel
theorem dX11_reach_13 : decode cX11_reach 13 = .ok (.iload_n 2, 1) := by decide +kernel
theorem dX11_reach_14 : decode cX11_reach 14 = .ok (.invokevirtual 233, 3) := by decide +kernel
theorem dX11_reach_17 : decode cX11_reach 17 = .ok (.ifCond .ne 6, 3) := by decide +kernel
theorem dX11_reach_20 : decode cX11_reach 20 = .ok (.bipush (-2), 2) := by decide +kernel
theorem dX11_reach_22 : decode cX11_reach 22 = .ok (.ireturn, 1) := by decide +kernel
theorem dX11_reach_23 : decode cX11_reach 23 = .ok (.aload_n 0, 1) := by decide +kernel
theorem dX11_reach_24 : decode cX11_reach 24 = .ok (.getfield 53, 3) := by decide +kernel
theorem dX11_reach_27 : decode cX11_reach 27 = .ok (.iload_n 3, 1) := by decide +kernel
theorem dX11_reach_28 : decode cX11_reach 28 = .ok (.invokevirtual 237, 3) := by decide +kernel
theorem dX11_reach_31 : decode cX11_reach 31 = .ok (.ireturn, 1) := by decide +kernel
set_option maxRecDepth 20000 in
theorem ggX11_lights_X11_isClouded : GoodIn wsX11_lights wsX11_isClouded := goodIn_r _ [6, 7, 8, 1, 9, 10, 11, 12, 13, 14, 15, 16, 17, 18, 19, 20, 21, 22, 23, 24, 25, 26, 27, 28, 29, 30, 31, 32, 33, 34, 35, 36, 37, 38, 39, 40, 41, 42, 43, 44, 45, 46, 47, 48, 49, 50, 51, 52, 53, 54, 55, 56, 57, 58, 59, 60, 61, 93, 94, 95, 96, 97, 98, 99, 100, 101, 102, 103, 104, 105, 106, 107, 108, 109, 110, 111, 112, 113, 114, 115, 116, 117, 118, 119, 120, 121, 122, 123, 124, 125, 126, 127, 128, 129, 130, 131, 132, 133, 134, 135] (by decide +kernel) (by decide +kernel)
set_option maxRecDepth 20000 in
theorem gX11_lights_X11_isClouded : GoodIn wsX11_lights (wsV RX11 233 RX11 yX11_isClouded wsX11_isClouded) := goodIn_app (goodIn_of _ (by decide +kernel)) ggX11_lights_X11_isClouded
theorem dX11_lights_0 : decode cX11_lights 0 = .ok (.aload_n 0, 1) := by decide +kernel
theorem dX11_lights_1 : decode cX11_lights 1 = .ok (.iload_n 1, 1) := by decide +kernel
theorem dX11_lights_2 : decode cX11_lights 2 = .ok (.iload_n 2, 1) := by decide +kernel
theorem dX11_lights_3 : decode cX11_lights 3 = .ok (.invokevirtual 233, 3) := by decide +kernel
theorem dX11_lights_6 : decode cX11_lights 6 = .ok (.ifCond .eq 13, 3) := by decide +kernel
theorem dX11_lights_9 : decode cX11_lights 9 = .ok (.aload_n 0, 1) := by decide +kernel
theorem dX11_lights_10 : decode cX11_lights 10 = .ok (.getfield 53, 3) := by decide +kernel
theorem dX11_lights_13 : decode cX11_lights 13 = .ok (.invokevirtual 240, 3) := by decide +kernel
theorem dX11_lights_16 : decode cX11_lights 16 = .ok (.goto 5, 3) := by decide +kernel
theorem dX11_lights_19 : decode cX11_lights 19 = .ok (.bipush (-2), 2) := by decide +kernel
theorem dX11_lights_21 : decode cX11_lights 21 = .ok (.ireturn, 1) := by decide +kernel
set_option maxRecDepth 20000 in
theorem ggX11_taken_X11_isClouded : GoodIn wsX11_taken wsX11_isClouded := goodIn_r _ [6, 7, 8, 1, 9, 10, 11, 12, 13, 14, 15, 16, 17, 18, 19, 20, 21, 22, 23, 24, 25, 26, 27, 28, 29, 30, 31, 32, 33, 34, 35, 36, 37, 38, 39, 40, 41, 42, 43, 44, 45, 46, 47, 48, 49, 50, 51, 52, 53, 54, 55, 56, 57, 58, 59, 60, 61, 97, 98, 99, 100, 101, 102, 103, 104, 105, 106, 107, 108, 109, 110, 111, 112, 113, 114, 115, 116, 117, 118, 119, 120, 121, 122, 123, 124, 125, 126, 127, 128, 129, 130, 131, 132, 133, 134, 135, 136, 137, 138, 139] (by decide +kernel) (by decide +kernel)
set_option maxRecDepth 20000 in
theorem gX11_taken_X11_isClouded : GoodIn wsX11_taken (wsV RX11 233 RX11 yX11_isClouded wsX11_isClouded) := goodIn_app (goodIn_of _ (by decide +kernel)) ggX11_taken_X11_isClouded
theorem dX11_taken_0 : decode cX11_taken 0 = .ok (.aload_n 0, 1) := by decide +kernel
theorem dX11_taken_1 : decode cX11_taken 1 = .ok (.iload_n 1, 1) := by decide +kernel
theorem dX11_taken_2 : decode cX11_taken 2 = .ok (.iload_n 2, 1) := by decide +kernel
theorem dX11_taken_3 : decode cX11_taken 3 = .ok (.invokevirtual 233, 3) := by decide +kernel
theorem dX11_taken_6 : decode cX11_taken 6 = .ok (.ifCond .eq 13, 3) := by decide +kernel
theorem dX11_taken_9 : decode cX11_taken 9 = .ok (.aload_n 0, 1) := by decide +kernel
theorem dX11_taken_10 : decode cX11_taken 10 = .ok (.getfield 53, 3) := by decide +kernel
theorem dX11_taken_13 : decode cX11_taken 13 = .ok (.invokevirtual 243, 3) := by decide +kernel
theorem dX11_taken_16 : decode cX11_taken 16 = .ok (.goto 5, 3) := by decide +kernel
theorem dX11_taken_19 : decode cX11_taken 19 = .ok (.bipush (-2), 2) := by decide +kernel
theorem dX11_taken_21 : decode cX11_taken 21 = .ok (.ireturn, 1) := by decide +kernel
set_option maxRecDepth 20000 in
theorem ggX11_lives_X11_isClouded : GoodIn wsX11_lives wsX11_isClouded := goodIn_r _ [8, 1, 9, 3, 10, 11, 12, 13, 14, 15, 16, 17, 18, 19, 20, 21, 22, 23, 24, 25, 26, 27, 28, 29, 30, 31, 32, 33, 34, 35, 36, 37, 38, 39, 40, 41, 42, 43, 44, 45, 46, 47, 48, 49, 50, 51, 52, 53, 54, 55, 56, 57, 58, 59, 60, 61, 62, 105, 106, 107, 108, 109, 110, 111, 112, 113, 114, 115, 116, 117, 118, 119, 120, 121, 122, 123, 124, 125, 126, 127, 128, 129, 130, 131, 132, 133, 134, 135, 136, 137, 138, 139, 140, 141, 142, 143, 144, 145, 146, 147] (by decide +kernel) (by decide +kernel)
set_option maxRecDepth 20000 in
theorem gX11_lives_X11_isClouded : GoodIn wsX11_lives (wsV RX11 233 RX11 yX11_isClouded wsX11_isClouded) := goodIn_app (goodIn_of _ (by decide +kernel)) ggX11_lives_X11_isClouded
theorem dX11_lives_0 : decode cX11_lives 0 = .ok (.aload_n 0, 1) := by decide +kernel
theorem dX11_lives_1 : decode cX11_lives 1 = .ok (.iload_n 1, 1) := by decide +kernel
theorem dX11_lives_2 : decode cX11_lives 2 = .ok (.iload_n 2, 1) := by decide +kernel
theorem dX11_lives_3 : decode cX11_lives 3 = .ok (.invokevirtual 233, 3) := by decide +kernel
theorem dX11_lives_6 : decode cX11_lives 6 = .ok (.ifCond .eq 24, 3) := by decide +kernel
theorem dX11_lives_9 : decode cX11_lives 9 = .ok (.aload_n 0, 1) := by decide +kernel
theorem dX11_lives_10 : decode cX11_lives 10 = .ok (.getfield 62, 3) := by decide +kernel
theorem dX11_lives_13 : decode cX11_lives 13 = .ok (.getfield 246, 3) := by decide +kernel
theorem dX11_lives_16 : decode cX11_lives 16 = .ok (.aload_n 0, 1) := by decide +kernel
theorem dX11_lives_17 : decode cX11_lives 17 = .ok (.getfield 53, 3) := by decide +kernel
theorem dX11_lives_20 : decode cX11_lives 20 = .ok (.invokevirtual 243, 3) := by decide +kernel
theorem dX11_lives_23 : decode cX11_lives 23 = .ok (.iload_n 2, 1) := by decide +kernel
theorem dX11_lives_24 : decode cX11_lives 24 = .ok (.invokevirtual 250, 3) := by decide +kernel
theorem dX11_lives_27 : decode cX11_lives 27 = .ok (.goto 5, 3) := by decide +kernel
theorem dX11_lives_30 : decode cX11_lives 30 = .ok (.bipush (-2), 2) := by decide +kernel
theorem dX11_lives_32 : decode cX11_lives 32 = .ok (.ireturn, 1) := by decide +kernel
set_option maxRecDepth 20000 in
theorem ggX11_when_X10_pipeAt : GoodIn wsX11_when wsX10_pipeAt := goodIn_r _ [13, 14, 15, 126, 127, 128, 129, 130, 131, 132, 133, 134, 135, 136, 137] (by decide +kernel) (by decide +kernel)
set_option maxRecDepth 20000 in
theorem gX11_when_X10_pipeAt : GoodIn wsX11_when (wsV RX11 110 RX10 yX10_pipeAt wsX10_pipeAt) := goodIn_app (goodIn_of _ (by decide +kernel)) ggX11_when_X10_pipeAt
set_option maxRecDepth 20000 in
theorem ggX11_when_X1_has : GoodIn wsX11_when wsX1_has := goodIn_r _ [20, 21, 138, 139, 140, 141, 142] (by decide +kernel) (by decide +kernel)
set_option maxRecDepth 20000 in
theorem gX11_when_X1_has : GoodIn wsX11_when (wsV RX11 166 RX1 yX1_has wsX1_has) := goodIn_app (goodIn_of _ (by decide +kernel)) ggX11_when_X1_has
theorem dX11_when_0 : decode cX11_when 0 = .ok (.aload_n 0, 1) := by decide +kernel
theorem dX11_when_1 : decode cX11_when 1 = .ok (.getfield 62, 3) := by decide +kernel
theorem dX11_when_4 : decode cX11_when 4 = .ok (.iload_n 1, 1) := by decide +kernel
theorem dX11_when_5 : decode cX11_when 5 = .ok (.invokevirtual 110, 3) := by decide +kernel
theorem dX11_when_8 : decode cX11_when 8 = .ok (.astore 4, 2) := by decide +kernel
theorem dX11_when_10 : decode cX11_when 10 = .ok (.aload 4, 2) := by decide +kernel
theorem dX11_when_12 : decode cX11_when 12 = .ok (.ifnull 29, 3) := by decide +kernel
theorem dX11_when_15 : decode cX11_when 15 = .ok (.aload_n 0, 1) := by decide +kernel
theorem dX11_when_16 : decode cX11_when 16 = .ok (.getfield 62, 3) := by decide +kernel
theorem dX11_when_19 : decode cX11_when 19 = .ok (.getfield 163, 3) := by decide +kernel
theorem dX11_when_22 : decode cX11_when 22 = .ok (.iload_n 2, 1) := by decide +kernel
theorem dX11_when_23 : decode cX11_when 23 = .ok (.invokevirtual 166, 3) := by decide +kernel
theorem dX11_when_26 : decode cX11_when 26 = .ok (.ifCond .eq 15, 3) := by decide +kernel
theorem dX11_when_29 : decode cX11_when 29 = .ok (.iload_n 3, 1) := by decide +kernel
theorem dX11_when_30 : decode cX11_when 30 = .ok (.iconst 1, 1) := by decide +kernel
theorem dX11_when_31 : decode cX11_when 31 = .ok (.if_icmp .lt 10, 3) := by decide +kernel
theorem dX11_when_34 : decode cX11_when 34 = .ok (.iload_n 3, 1) := by decide +kernel
theorem dX11_when_35 : decode cX11_when 35 = .ok (.sipush 200, 3) := by decide +kernel
theorem dX11_when_38 : decode cX11_when 38 = .ok (.if_icmp .le 6, 3) := by decide +kernel
theorem dX11_when_41 : decode cX11_when 41 = .ok (.bipush (-2), 2) := by decide +kernel
theorem dX11_when_43 : decode cX11_when 43 = .ok (.ireturn, 1) := by decide +kernel
theorem dX11_when_44 : decode cX11_when 44 = .ok (.aload_n 0, 1) := by decide +kernel
theorem dX11_when_45 : decode cX11_when 45 = .ok (.invokevirtual 255, 3) := by decide +kernel
theorem dX11_when_48 : decode cX11_when 48 = .ok (.iload_n 2, 1) := by decide +kernel
theorem dX11_when_49 : decode cX11_when 49 = .ok (.istore 5, 2) := by decide +kernel
theorem dX11_when_51 : decode cX11_when 51 = .ok (.ldc_w 258, 3) := by decide +kernel
theorem dX11_when_54 : decode cX11_when 54 = .ok (.istore 6, 2) := by decide +kernel
theorem dX11_when_56 : decode cX11_when 56 = .ok (.aload_n 0, 1) := by decide +kernel
theorem dX11_when_57 : decode cX11_when 57 = .ok (.getfield 62, 3) := by decide +kernel
theorem dX11_when_60 : decode cX11_when 60 = .ok (.getfield 163, 3) := by decide +kernel
theorem dX11_when_63 : decode cX11_when 63 = .ok (.getfield 259, 3) := by decide +kernel
theorem dX11_when_66 : decode cX11_when 66 = .ok (.iload_n 2, 1) := by decide +kernel
theorem dX11_when_67 : decode cX11_when 67 = .ok (.iload_n 3, 1) := by decide +kernel
theorem dX11_when_68 : decode cX11_when 68 = .ok (.iadd, 1) := by decide +kernel
theorem dX11_when_69 : decode cX11_when 69 = .ok (.invokestatic 262, 3) := by decide +kernel
theorem dX11_when_72 : decode cX11_when 72 = .ok (.istore 7, 2) := by decide +kernel
theorem dX11_when_74 : decode cX11_when 74 = .ok (.iload_n 2, 1) := by decide +kernel
theorem dX11_when_75 : decode cX11_when 75 = .ok (.istore 8, 2) := by decide +kernel
theorem dX11_when_77 : decode cX11_when 77 = .ok (.iload 8, 2) := by decide +kernel
theorem dX11_when_79 : decode cX11_when 79 = .ok (.iload 7, 2) := by decide +kernel
theorem dX11_when_81 : decode cX11_when 81 = .ok (.if_icmp .ge 34, 3) := by decide +kernel
theorem dX11_when_84 : decode cX11_when 84 = .ok (.aload_n 0, 1) := by decide +kernel
theorem dX11_when_85 : decode cX11_when 85 = .ok (.aload 4, 2) := by decide +kernel
theorem dX11_when_87 : decode cX11_when 87 = .ok (.iload 8, 2) := by decide +kernel
theorem dX11_when_89 : decode cX11_when 89 = .ok (.invokevirtual 265, 3) := by decide +kernel
theorem dX11_when_92 : decode cX11_when 92 = .ok (.istore 9, 2) := by decide +kernel
theorem dX11_when_94 : decode cX11_when 94 = .ok (.iload 9, 2) := by decide +kernel
theorem dX11_when_96 : decode cX11_when 96 = .ok (.iload 6, 2) := by decide +kernel
theorem dX11_when_98 : decode cX11_when 98 = .ok (.if_icmp .ge 11, 3) := by decide +kernel
theorem dX11_when_101 : decode cX11_when 101 = .ok (.iload 9, 2) := by decide +kernel
theorem dX11_when_103 : decode cX11_when 103 = .ok (.istore 6, 2) := by decide +kernel
theorem dX11_when_105 : decode cX11_when 105 = .ok (.iload 8, 2) := by decide +kernel
theorem dX11_when_107 : decode cX11_when 107 = .ok (.istore 5, 2) := by decide +kernel
theorem dX11_when_109 : decode cX11_when 109 = .ok (.iinc 8 1, 3) := by decide +kernel
theorem dX11_when_112 : decode cX11_when 112 = .ok (.goto (-35), 3) := by decide +kernel
theorem dX11_when_115 : decode cX11_when 115 = .ok (.iload 5, 2) := by decide +kernel
theorem dX11_when_117 : decode cX11_when 117 = .ok (.ireturn, 1) := by decide +kernel
set_option maxRecDepth 20000 in
theorem ggX11_moved_X6_has : GoodIn wsX11_moved wsX6_has := goodIn_r _ [9, 10, 137, 138, 139, 140, 141, 142] (by decide +kernel) (by decide +kernel)
set_option maxRecDepth 20000 in
theorem gX11_moved_X6_has : GoodIn wsX11_moved (wsV RX11 269 RX6 yX6_has wsX6_has) := goodIn_app (goodIn_of _ (by decide +kernel)) ggX11_moved_X6_has
set_option maxRecDepth 20000 in
theorem ggX11_moved_X11_isClouded : GoodIn wsX11_moved wsX11_isClouded := goodIn_r _ [15, 1, 16, 4, 17, 18, 19, 20, 21, 22, 23, 24, 25, 26, 27, 28, 29, 30, 31, 32, 33, 34, 35, 36, 37, 38, 39, 40, 41, 42, 43, 44, 45, 46, 47, 48, 49, 50, 51, 52, 53, 54, 55, 56, 57, 58, 59, 60, 61, 62, 63, 64, 65, 66, 67, 68, 69, 114, 115, 116, 117, 118, 119, 120, 121, 122, 123, 124, 125, 126, 127, 128, 129, 130, 131, 132, 133, 134, 135, 136, 143, 144, 145, 146, 147, 148, 149, 150, 151, 152, 153, 154, 155, 156, 157, 158, 159, 160, 161, 162] (by decide +kernel) (by decide +kernel)
set_option maxRecDepth 20000 in
theorem gX11_moved_X11_isClouded : GoodIn wsX11_moved (wsV RX11 233 RX11 yX11_isClouded wsX11_isClouded) := goodIn_app (goodIn_of _ (by decide +kernel)) ggX11_moved_X11_isClouded
theorem dX11_moved_0 : decode cX11_moved 0 = .ok (.iload 4, 2) := by decide +kernel
theorem dX11_moved_2 : decode cX11_moved 2 = .ok (.sipush (-500), 3) := by decide +kernel
theorem dX11_moved_5 : decode cX11_moved 5 = .ok (.if_icmp .lt 31, 3) := by decide +kernel
theorem dX11_moved_8 : decode cX11_moved 8 = .ok (.iload 4, 2) := by decide +kernel
theorem dX11_moved_10 : decode cX11_moved 10 = .ok (.sipush 999, 3) := by decide +kernel
theorem dX11_moved_13 : decode cX11_moved 13 = .ok (.if_icmp .gt 23, 3) := by decide +kernel
theorem dX11_moved_16 : decode cX11_moved 16 = .ok (.iload 5, 2) := by decide +kernel
theorem dX11_moved_18 : decode cX11_moved 18 = .ok (.sipush (-500), 3) := by decide +kernel
theorem dX11_moved_21 : decode cX11_moved 21 = .ok (.if_icmp .lt 15, 3) := by decide +kernel
theorem dX11_moved_24 : decode cX11_moved 24 = .ok (.iload 5, 2) := by decide +kernel
theorem dX11_moved_26 : decode cX11_moved 26 = .ok (.sipush 999, 3) := by decide +kernel
theorem dX11_moved_29 : decode cX11_moved 29 = .ok (.if_icmp .gt 7, 3) := by decide +kernel
theorem dX11_moved_32 : decode cX11_moved 32 = .ok (.iconst 1, 1) := by decide +kernel
theorem dX11_moved_33 : decode cX11_moved 33 = .ok (.goto 4, 3) := by decide +kernel
theorem dX11_moved_36 : decode cX11_moved 36 = .ok (.iconst 0, 1) := by decide +kernel
theorem dX11_moved_37 : decode cX11_moved 37 = .ok (.istore 6, 2) := by decide +kernel
theorem dX11_moved_39 : decode cX11_moved 39 = .ok (.iload 6, 2) := by decide +kernel
theorem dX11_moved_41 : decode cX11_moved 41 = .ok (.ifCond .eq 26, 3) := by decide +kernel
theorem dX11_moved_44 : decode cX11_moved 44 = .ok (.aload_n 0, 1) := by decide +kernel
theorem dX11_moved_45 : decode cX11_moved 45 = .ok (.getfield 62, 3) := by decide +kernel
