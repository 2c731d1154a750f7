theorem dX10_addPot_43 : decode cX10_addPot 43 = .ok (.getfield 36, 3) := by decide +kernel
theorem dX10_addPot_46 : decode cX10_addPot 46 = .ok (.iload_n 2, 1) := by decide +kernel
theorem dX10_addPot_47 : decode cX10_addPot 47 = .ok (.iastore, 1) := by decide +kernel
theorem dX10_addPot_48 : decode cX10_addPot 48 = .ok (.aload_n 0, 1) := by decide +kernel
theorem dX10_addPot_49 : decode cX10_addPot 49 = .ok (.dup, 1) := by decide +kernel
theorem dX10_addPot_50 : decode cX10_addPot 50 = .ok (.getfield 36, 3) := by decide +kernel
theorem dX10_addPot_53 : decode cX10_addPot 53 = .ok (.iconst 1, 1) := by decide +kernel
theorem dX10_addPot_54 : decode cX10_addPot 54 = .ok (.iadd, 1) := by decide +kernel
theorem dX10_addPot_55 : decode cX10_addPot 55 = .ok (.putfield 36, 3) := by decide +kernel
theorem dX10_addPot_58 : decode cX10_addPot 58 = .ok (.return_, 1) := by decide +kernel
theorem dX10_addPipe_0 : decode cX10_addPipe 0 = .ok (.aload_n 0, 1) := by decide +kernel
theorem dX10_addPipe_1 : decode cX10_addPipe 1 = .ok (.getfield 39, 3) := by decide +kernel
theorem dX10_addPipe_4 : decode cX10_addPipe 4 = .ok (.ifCond .lt 32, 3) := by decide +kernel
theorem dX10_addPipe_7 : decode cX10_addPipe 7 = .ok (.aload_n 0, 1) := by decide +kernel
theorem dX10_addPipe_8 : decode cX10_addPipe 8 = .ok (.getfield 39, 3) := by decide +kernel
theorem dX10_addPipe_11 : decode cX10_addPipe 11 = .ok (.bipush 12, 2) := by decide +kernel
theorem dX10_addPipe_13 : decode cX10_addPipe 13 = .ok (.if_icmp .ge 23, 3) := by decide +kernel
theorem dX10_addPipe_16 : decode cX10_addPipe 16 = .ok (.aload_n 0, 1) := by decide +kernel
theorem dX10_addPipe_17 : decode cX10_addPipe 17 = .ok (.getfield 61, 3) := by decide +kernel
theorem dX10_addPipe_20 : decode cX10_addPipe 20 = .ok (.aload_n 0, 1) := by decide +kernel
theorem dX10_addPipe_21 : decode cX10_addPipe 21 = .ok (.getfield 39, 3) := by decide +kernel
theorem dX10_addPipe_24 : decode cX10_addPipe 24 = .ok (.aload_n 1, 1) := by decide +kernel
theorem dX10_addPipe_25 : decode cX10_addPipe 25 = .ok (.aastore, 1) := by decide +kernel
theorem dX10_addPipe_26 : decode cX10_addPipe 26 = .ok (.aload_n 0, 1) := by decide +kernel
theorem dX10_addPipe_27 : decode cX10_addPipe 27 = .ok (.dup, 1) := by decide +kernel
theorem dX10_addPipe_28 : decode cX10_addPipe 28 = .ok (.getfield 39, 3) := by decide +kernel
theorem dX10_addPipe_31 : decode cX10_addPipe 31 = .ok (.iconst 1, 1) := by decide +kernel
theorem dX10_addPipe_32 : decode cX10_addPipe 32 = .ok (.iadd, 1) := by decide +kernel
theorem dX10_addPipe_33 : decode cX10_addPipe 33 = .ok (.putfield 39, 3) := by decide +kernel
theorem dX10_addPipe_36 : decode cX10_addPipe 36 = .ok (.return_, 1) := by decide +kernel
theorem dX10_hasPot_0 : decode cX10_hasPot 0 = .ok (.iload_n 1, 1) := by decide +kernel
theorem dX10_hasPot_1 : decode cX10_hasPot 1 = .ok (.ifCond .lt 15, 3) := by decide +kernel
theorem dX10_hasPot_4 : decode cX10_hasPot 4 = .ok (.iload_n 1, 1) := by decide +kernel
theorem dX10_hasPot_5 : decode cX10_hasPot 5 = .ok (.aload_n 0, 1) := by decide +kernel
theorem dX10_hasPot_6 : decode cX10_hasPot 6 = .ok (.getfield 36, 3) := by decide +kernel
theorem dX10_hasPot_9 : decode cX10_hasPot 9 = .ok (.if_icmp .ge 7, 3) := by decide +kernel
theorem dX10_hasPot_12 : decode cX10_hasPot 12 = .ok (.iconst 1, 1) := by decide +kernel
theorem dX10_hasPot_13 : decode cX10_hasPot 13 = .ok (.goto 4, 3) := by decide +kernel
theorem dX10_hasPot_16 : decode cX10_hasPot 16 = .ok (.iconst 0, 1) := by decide +kernel
theorem dX10_hasPot_17 : decode cX10_hasPot 17 = .ok (.ireturn, 1) := by decide +kernel
theorem dX10_heightOf_0 : decode cX10_heightOf 0 = .ok (.iload_n 1, 1) := by decide +kernel
theorem dX10_heightOf_1 : decode cX10_heightOf 1 = .ok (.ifCond .lt 18, 3) := by decide +kernel
theorem dX10_heightOf_4 : decode cX10_heightOf 4 = .ok (.iload_n 1, 1) := by decide +kernel
theorem dX10_heightOf_5 : decode cX10_heightOf 5 = .ok (.bipush 8, 2) := by decide +kernel
theorem dX10_heightOf_7 : decode cX10_heightOf 7 = .ok (.if_icmp .ge 12, 3) := by decide +kernel
theorem dX10_heightOf_10 : decode cX10_heightOf 10 = .ok (.aload_n 0, 1) := by decide +kernel
theorem dX10_heightOf_11 : decode cX10_heightOf 11 = .ok (.getfield 52, 3) := by decide +kernel
theorem dX10_heightOf_14 : decode cX10_heightOf 14 = .ok (.iload_n 1, 1) := by decide +kernel
theorem dX10_heightOf_15 : decode cX10_heightOf 15 = .ok (.iaload, 1) := by decide +kernel
theorem dX10_heightOf_16 : decode cX10_heightOf 16 = .ok (.goto 4, 3) := by decide +kernel
theorem dX10_heightOf_19 : decode cX10_heightOf 19 = .ok (.iconst 0, 1) := by decide +kernel
theorem dX10_heightOf_20 : decode cX10_heightOf 20 = .ok (.ireturn, 1) := by decide +kernel
theorem dX10_holdsOf_0 : decode cX10_holdsOf 0 = .ok (.iload_n 1, 1) := by decide +kernel
theorem dX10_holdsOf_1 : decode cX10_holdsOf 1 = .ok (.ifCond .lt 18, 3) := by decide +kernel
theorem dX10_holdsOf_4 : decode cX10_holdsOf 4 = .ok (.iload_n 1, 1) := by decide +kernel
theorem dX10_holdsOf_5 : decode cX10_holdsOf 5 = .ok (.bipush 8, 2) := by decide +kernel
theorem dX10_holdsOf_7 : decode cX10_holdsOf 7 = .ok (.if_icmp .ge 12, 3) := by decide +kernel
theorem dX10_holdsOf_10 : decode cX10_holdsOf 10 = .ok (.aload_n 0, 1) := by decide +kernel
theorem dX10_holdsOf_11 : decode cX10_holdsOf 11 = .ok (.getfield 56, 3) := by decide +kernel
theorem dX10_holdsOf_14 : decode cX10_holdsOf 14 = .ok (.iload_n 1, 1) := by decide +kernel
theorem dX10_holdsOf_15 : decode cX10_holdsOf 15 = .ok (.iaload, 1) := by decide +kernel
theorem dX10_holdsOf_16 : decode cX10_holdsOf 16 = .ok (.goto 4, 3) := by decide +kernel
theorem dX10_holdsOf_19 : decode cX10_holdsOf 19 = .ok (.iconst 0, 1) := by decide +kernel
theorem dX10_holdsOf_20 : decode cX10_holdsOf 20 = .ok (.ireturn, 1) := by decide +kernel
theorem dX10_pipeAt_0 : decode cX10_pipeAt 0 = .ok (.iload_n 1, 1) := by decide +kernel
theorem dX10_pipeAt_1 : decode cX10_pipeAt 1 = .ok (.ifCond .lt 26, 3) := by decide +kernel
theorem dX10_pipeAt_4 : decode cX10_pipeAt 4 = .ok (.iload_n 1, 1) := by decide +kernel
theorem dX10_pipeAt_5 : decode cX10_pipeAt 5 = .ok (.aload_n 0, 1) := by decide +kernel
theorem dX10_pipeAt_6 : decode cX10_pipeAt 6 = .ok (.getfield 39, 3) := by decide +kernel
theorem dX10_pipeAt_9 : decode cX10_pipeAt 9 = .ok (.if_icmp .ge 18, 3) := by decide +kernel
theorem dX10_pipeAt_12 : decode cX10_pipeAt 12 = .ok (.iload_n 1, 1) := by decide +kernel
theorem dX10_pipeAt_13 : decode cX10_pipeAt 13 = .ok (.bipush 12, 2) := by decide +kernel
theorem dX10_pipeAt_15 : decode cX10_pipeAt 15 = .ok (.if_icmp .ge 12, 3) := by decide +kernel
theorem dX10_pipeAt_18 : decode cX10_pipeAt 18 = .ok (.aload_n 0, 1) := by decide +kernel
theorem dX10_pipeAt_19 : decode cX10_pipeAt 19 = .ok (.getfield 61, 3) := by decide +kernel
theorem dX10_pipeAt_22 : decode cX10_pipeAt 22 = .ok (.iload_n 1, 1) := by decide +kernel
theorem dX10_pipeAt_23 : decode cX10_pipeAt 23 = .ok (.aaload, 1) := by decide +kernel
theorem dX10_pipeAt_24 : decode cX10_pipeAt 24 = .ok (.goto 4, 3) := by decide +kernel
theorem dX10_pipeAt_27 : decode cX10_pipeAt 27 = .ok (.aconst_null, 1) := by decide +kernel
theorem dX10_pipeAt_28 : decode cX10_pipeAt 28 = .ok (.areturn, 1) := by decide +kernel
set_option maxRecDepth 20000 in
theorem ggX10_comes_X10_heightOf : GoodIn wsX10_comes wsX10_heightOf := goodIn_r _ [7, 8, 20, 21, 22, 23, 24, 25, 26, 27, 28, 29, 30, 31] (by decide +kernel) (by decide +kernel)
set_option maxRecDepth 20000 in
theorem gX10_comes_X10_heightOf : GoodIn wsX10_comes (wsV RX10 65 RX10 yX10_heightOf wsX10_heightOf) := goodIn_app (goodIn_of _ (by decide +kernel)) ggX10_comes_X10_heightOf
theorem dX10_comes_0 : decode cX10_comes 0 = .ok (.aload_n 1, 1) := by decide +kernel
theorem dX10_comes_1 : decode cX10_comes 1 = .ok (.getfield 69, 3) := by decide +kernel
theorem dX10_comes_4 : decode cX10_comes 4 = .ok (.bipush 100, 2) := by decide +kernel
theorem dX10_comes_6 : decode cX10_comes 6 = .ok (.iload_n 3, 1) := by decide +kernel
theorem dX10_comes_7 : decode cX10_comes 7 = .ok (.iload_n 2, 1) := by decide +kernel
theorem dX10_comes_8 : decode cX10_comes 8 = .ok (.isub, 1) := by decide +kernel
theorem dX10_comes_9 : decode cX10_comes 9 = .ok (.imul, 1) := by decide +kernel
theorem dX10_comes_10 : decode cX10_comes 10 = .ok (.if_icmp .ne 25, 3) := by decide +kernel
theorem dX10_comes_13 : decode cX10_comes 13 = .ok (.aload_n 1, 1) := by decide +kernel
theorem dX10_comes_14 : decode cX10_comes 14 = .ok (.getfield 74, 3) := by decide +kernel
theorem dX10_comes_17 : decode cX10_comes 17 = .ok (.aload_n 0, 1) := by decide +kernel
theorem dX10_comes_18 : decode cX10_comes 18 = .ok (.iload_n 3, 1) := by decide +kernel
theorem dX10_comes_19 : decode cX10_comes 19 = .ok (.invokevirtual 65, 3) := by decide +kernel
theorem dX10_comes_22 : decode cX10_comes 22 = .ok (.aload_n 0, 1) := by decide +kernel
theorem dX10_comes_23 : decode cX10_comes 23 = .ok (.iload_n 2, 1) := by decide +kernel
theorem dX10_comes_24 : decode cX10_comes 24 = .ok (.invokevirtual 65, 3) := by decide +kernel
theorem dX10_comes_27 : decode cX10_comes 27 = .ok (.isub, 1) := by decide +kernel
theorem dX10_comes_28 : decode cX10_comes 28 = .ok (.if_icmp .ne 7, 3) := by decide +kernel
theorem dX10_comes_31 : decode cX10_comes 31 = .ok (.iconst 1, 1) := by decide +kernel
theorem dX10_comes_32 : decode cX10_comes 32 = .ok (.goto 4, 3) := by decide +kernel
theorem dX10_comes_35 : decode cX10_comes 35 = .ok (.iconst 0, 1) := by decide +kernel
theorem dX10_comes_36 : decode cX10_comes 36 = .ok (.ireturn, 1) := by decide +kernel
set_option maxRecDepth 20000 in
theorem ggX11_init_X9_init : GoodIn wsX11_init wsX9_init := goodIn_r _ [38, 39, 2, 3, 40, 41, 42, 43, 44, 45, 46, 47, 48, 145, 146, 147, 148, 149, 150, 151, 152] (by decide +kernel) (by decide +kernel)
set_option maxRecDepth 20000 in
theorem gX11_init_X9_init_n9 : GoodIn wsX11_init (wsX9_init) := ggX11_init_X9_init
set_option maxRecDepth 20000 in
theorem ggX11_init_X7_init : GoodIn wsX11_init wsX7_init := goodIn_r _ [50, 51, 2, 3, 52, 53, 54, 55, 56, 164, 165, 166, 167] (by decide +kernel) (by decide +kernel)
set_option maxRecDepth 20000 in
theorem gX11_init_X7_init_n24 : GoodIn wsX11_init (wsX7_init) := ggX11_init_X7_init
set_option maxRecDepth 20000 in
theorem ggX11_init_X8_init : GoodIn wsX11_init wsX8_init := goodIn_r _ [58, 59, 2, 3, 60, 61, 62, 63, 64, 65, 168, 169, 170, 171, 172, 173] (by decide +kernel) (by decide +kernel)
set_option maxRecDepth 20000 in
theorem gX11_init_X8_init_n31 : GoodIn wsX11_init (wsX8_init) := ggX11_init_X8_init
set_option maxRecDepth 20000 in
theorem ggX11_init_X1_init : GoodIn wsX11_init wsX1_init := goodIn_r _ [67, 68, 2, 3, 69, 70, 30, 71, 72, 73, 174, 175, 176, 177, 178] (by decide +kernel) (by decide +kernel)
set_option maxRecDepth 20000 in
theorem gX11_init_X1_init_n38 : GoodIn wsX11_init (wsX1_init) := ggX11_init_X1_init
set_option maxRecDepth 20000 in
theorem ggX11_init_X3_init : GoodIn wsX11_init wsX3_init := goodIn_r _ [75, 76, 2, 3, 77, 78, 79, 80, 81, 82, 83, 30, 84, 85, 86, 87, 179, 180, 181, 182, 183, 184, 185, 186, 187, 188, 189] (by decide +kernel) (by decide +kernel)
set_option maxRecDepth 20000 in
theorem gX11_init_X3_init_n45 : GoodIn wsX11_init (wsX3_init) := ggX11_init_X3_init
set_option maxRecDepth 20000 in
theorem ggX11_init_X0_init : GoodIn wsX11_init wsX0_init := goodIn_r _ [89, 90, 2, 3, 91, 92, 93, 94, 95, 96, 97, 30, 98, 190, 191, 192, 193, 194, 195, 196, 197] (by decide +kernel) (by decide +kernel)
set_option maxRecDepth 20000 in
theorem gX11_init_X0_init_n52 : GoodIn wsX11_init (wsX0_init) := ggX11_init_X0_init
set_option maxRecDepth 20000 in
theorem ggX11_init_X10_init : GoodIn wsX11_init wsX10_init := goodIn_r _ [100, 101, 2, 3, 102, 19, 20, 103, 104, 105, 106, 107, 108, 109, 110, 111, 112, 113, 114, 115, 116, 117, 30, 118, 119, 120, 121, 66, 67, 68, 69, 70, 71, 72, 73, 122, 123, 124, 125, 126, 127, 128, 129, 130, 131, 132, 133, 134, 135, 136, 137, 138, 139, 140, 141, 142, 55, 143, 144, 174, 175, 176, 177, 178, 198, 199, 200, 201, 202, 203, 204, 205, 206, 207, 208, 209, 210, 211, 212, 213, 214, 215, 216, 217, 218, 219, 220, 221, 222, 223, 224, 225, 226] (by decide +kernel) (by decide +kernel)
set_option maxRecDepth 20000 in
theorem gX11_init_X10_init_n61 : GoodIn wsX11_init (wsX10_init) := ggX11_init_X10_init
theorem dX11_init_0 : decode cX11_init 0 = .ok (.aload_n 0, 1) := by decide +kernel
theorem dX11_init_1 : decode cX11_init 1 = .ok (.invokespecial 1, 3) := by decide +kernel
theorem dX11_init_4 : decode cX11_init 4 = .ok (.aload_n 0, 1) := by decide +kernel
theorem dX11_init_5 : decode cX11_init 5 = .ok (.new 7, 3) := by decide +kernel
theorem dX11_init_8 : decode cX11_init 8 = .ok (.dup, 1) := by decide +kernel
theorem dX11_init_9 : decode cX11_init 9 = .ok (.invokespecial 9, 3) := by decide +kernel
theorem dX11_init_12 : decode cX11_init 12 = .ok (.putfield 10, 3) := by decide +kernel
theorem dX11_init_15 : decode cX11_init 15 = .ok (.aload_n 0, 1) := by decide +kernel
theorem dX11_init_16 : decode cX11_init 16 = .ok (.iconst 3, 1) := by decide +kernel
theorem dX11_init_17 : decode cX11_init 17 = .ok (.anewarray 16, 3) := by decide +kernel
theorem dX11_init_20 : decode cX11_init 20 = .ok (.putfield 18, 3) := by decide +kernel
theorem dX11_init_23 : decode cX11_init 23 = .ok (.aload_n 0, 1) := by decide +kernel
theorem dX11_init_24 : decode cX11_init 24 = .ok (.iconst 4, 1) := by decide +kernel
theorem dX11_init_25 : decode cX11_init 25 = .ok (.anewarray 22, 3) := by decide +kernel
theorem dX11_init_28 : decode cX11_init 28 = .ok (.dup, 1) := by decide +kernel
theorem dX11_init_29 : decode cX11_init 29 = .ok (.iconst 0, 1) := by decide +kernel
theorem dX11_init_30 : decode cX11_init 30 = .ok (.new 22, 3) := by decide +kernel
theorem dX11_init_33 : decode cX11_init 33 = .ok (.dup, 1) := by decide +kernel
theorem dX11_init_34 : decode cX11_init 34 = .ok (.invokespecial 24, 3) := by decide +kernel
theorem dX11_init_37 : decode cX11_init 37 = .ok (.aastore, 1) := by decide +kernel
theorem dX11_init_38 : decode cX11_init 38 = .ok (.dup, 1) := by decide +kernel
theorem dX11_init_39 : decode cX11_init 39 = .ok (.iconst 1, 1) := by decide +kernel
theorem dX11_init_40 : decode cX11_init 40 = .ok (.new 22, 3) := by decide +kernel
theorem dX11_init_43 : decode cX11_init 43 = .ok (.dup, 1) := by decide +kernel
theorem dX11_init_44 : decode cX11_init 44 = .ok (.invokespecial 24, 3) := by decide +kernel
theorem dX11_init_47 : decode cX11_init 47 = .ok (.aastore, 1) := by decide +kernel
theorem dX11_init_48 : decode cX11_init 48 = .ok (.dup, 1) := by decide +kernel
theorem dX11_init_49 : decode cX11_init 49 = .ok (.iconst 2, 1) := by decide +kernel
theorem dX11_init_50 : decode cX11_init 50 = .ok (.new 22, 3) := by decide +kernel
theorem dX11_init_53 : decode cX11_init 53 = .ok (.dup, 1) := by decide +kernel
theorem dX11_init_54 : decode cX11_init 54 = .ok (.invokespecial 24, 3) := by decide +kernel
theorem dX11_init_57 : decode cX11_init 57 = .ok (.aastore, 1) := by decide +kernel
theorem dX11_init_58 : decode cX11_init 58 = .ok (.dup, 1) := by decide +kernel
theorem dX11_init_59 : decode cX11_init 59 = .ok (.iconst 3, 1) := by decide +kernel
theorem dX11_init_60 : decode cX11_init 60 = .ok (.new 22, 3) := by decide +kernel
theorem dX11_init_63 : decode cX11_init 63 = .ok (.dup, 1) := by decide +kernel
theorem dX11_init_64 : decode cX11_init 64 = .ok (.invokespecial 24, 3) := by decide +kernel
theorem dX11_init_67 : decode cX11_init 67 = .ok (.aastore, 1) := by decide +kernel
theorem dX11_init_68 : decode cX11_init 68 = .ok (.putfield 25, 3) := by decide +kernel
theorem dX11_init_71 : decode cX11_init 71 = .ok (.aload_n 0, 1) := by decide +kernel
theorem dX11_init_72 : decode cX11_init 72 = .ok (.new 29, 3) := by decide +kernel
theorem dX11_init_75 : decode cX11_init 75 = .ok (.dup, 1) := by decide +kernel
theorem dX11_init_76 : decode cX11_init 76 = .ok (.invokespecial 31, 3) := by decide +kernel
theorem dX11_init_79 : decode cX11_init 79 = .ok (.putfield 32, 3) := by decide +kernel
theorem dX11_init_82 : decode cX11_init 82 = .ok (.aload_n 0, 1) := by decide +kernel
theorem dX11_init_83 : decode cX11_init 83 = .ok (.new 36, 3) := by decide +kernel
theorem dX11_init_86 : decode cX11_init 86 = .ok (.dup, 1) := by decide +kernel
theorem dX11_init_87 : decode cX11_init 87 = .ok (.invokespecial 38, 3) := by decide +kernel
theorem dX11_init_90 : decode cX11_init 90 = .ok (.putfield 39, 3) := by decide +kernel
theorem dX11_init_93 : decode cX11_init 93 = .ok (.aload_n 0, 1) := by decide +kernel
theorem dX11_init_94 : decode cX11_init 94 = .ok (.new 43, 3) := by decide +kernel
theorem dX11_init_97 : decode cX11_init 97 = .ok (.dup, 1) := by decide +kernel
theorem dX11_init_98 : decode cX11_init 98 = .ok (.invokespecial 45, 3) := by decide +kernel
theorem dX11_init_101 : decode cX11_init 101 = .ok (.putfield 46, 3) := by decide +kernel
theorem dX11_init_104 : decode cX11_init 104 = .ok (.aload_n 0, 1) := by decide +kernel
theorem dX11_init_105 : decode cX11_init 105 = .ok (.new 50, 3) := by decide +kernel
theorem dX11_init_108 : decode cX11_init 108 = .ok (.dup, 1) := by decide +kernel
theorem dX11_init_109 : decode cX11_init 109 = .ok (.invokespecial 52, 3) := by decide +kernel
theorem dX11_init_112 : decode cX11_init 112 = .ok (.putfield 53, 3) := by decide +kernel
theorem dX11_init_115 : decode cX11_init 115 = .ok (.aload_n 0, 1) := by decide +kernel
theorem dX11_init_116 : decode cX11_init 116 = .ok (.sipush 1000, 3) := by decide +kernel
theorem dX11_init_119 : decode cX11_init 119 = .ok (.newarray .int, 2) := by decide +kernel
theorem dX11_init_121 : decode cX11_init 121 = .ok (.putfield 57, 3) := by decide +kernel
theorem dX11_init_124 : decode cX11_init 124 = .ok (.aload_n 0, 1) := by decide +kernel
theorem dX11_init_125 : decode cX11_init 125 = .ok (.new 16, 3) := by decide +kernel
theorem dX11_init_128 : decode cX11_init 128 = .ok (.dup, 1) := by decide +kernel
theorem dX11_init_129 : decode cX11_init 129 = .ok (.invokespecial 61, 3) := by decide +kernel
theorem dX11_init_132 : decode cX11_init 132 = .ok (.putfield 62, 3) := by decide +kernel
theorem dX11_init_135 : decode cX11_init 135 = .ok (.aload_n 0, 1) := by decide +kernel
theorem dX11_init_136 : decode cX11_init 136 = .ok (.iconst 0, 1) := by decide +kernel
theorem dX11_init_137 : decode cX11_init 137 = .ok (.putfield 66, 3) := by decide +kernel
theorem dX11_init_140 : decode cX11_init 140 = .ok (.aload_n 0, 1) := by decide +kernel
theorem dX11_init_141 : decode cX11_init 141 = .ok (.iconst (-1), 1) := by decide +kernel
theorem dX11_init_142 : decode cX11_init 142 = .ok (.putfield 70, 3) := by decide +kernel
theorem dX11_init_145 : decode cX11_init 145 = .ok (.return_, 1) := by decide +kernel
set_option maxRecDepth 20000 in
theorem ggX11_feed_X9_hasSpace : GoodIn wsX11_feed wsX9_hasSpace := goodIn_r _ [7, 8, 9, 25, 26, 27, 28, 29, 30, 31, 32] (by decide +kernel) (by decide +kernel)
set_option maxRecDepth 20000 in
theorem gX11_feed_X9_hasSpace : GoodIn wsX11_feed (wsV RX11 73 RX9 yX9_hasSpace wsX9_hasSpace) := goodIn_app (goodIn_of _ (by decide +kernel)) ggX11_feed_X9_hasSpace
set_option maxRecDepth 20000 in
theorem ggX11_feed_X9_put : GoodIn wsX11_feed wsX9_put := goodIn_r _ [13, 8, 9, 25, 26, 27, 28, 29, 30, 31, 32] (by decide +kernel) (by decide +kernel)
set_option maxRecDepth 20000 in
theorem gX11_feed_X9_put : GoodIn wsX11_feed (wsV RX11 77 RX9 yX9_put wsX9_put) := goodIn_app (goodIn_of _ (by decide +kernel)) ggX11_feed_X9_put
theorem dX11_feed_0 : decode cX11_feed 0 = .ok (.aload_n 0, 1) := by decide +kernel
theorem dX11_feed_1 : decode cX11_feed 1 = .ok (.getfield 10, 3) := by decide +kernel
theorem dX11_feed_4 : decode cX11_feed 4 = .ok (.bipush 20, 2) := by decide +kernel
theorem dX11_feed_6 : decode cX11_feed 6 = .ok (.invokevirtual 73, 3) := by decide +kernel
theorem dX11_feed_9 : decode cX11_feed 9 = .ok (.ifCond .ne 5, 3) := by decide +kernel
theorem dX11_feed_12 : decode cX11_feed 12 = .ok (.iconst (-1), 1) := by decide +kernel
theorem dX11_feed_13 : decode cX11_feed 13 = .ok (.ireturn, 1) := by decide +kernel
theorem dX11_feed_14 : decode cX11_feed 14 = .ok (.aload_n 0, 1) := by decide +kernel
theorem dX11_feed_15 : decode cX11_feed 15 = .ok (.getfield 10, 3) := by decide +kernel
theorem dX11_feed_18 : decode cX11_feed 18 = .ok (.iload_n 1, 1) := by decide +kernel
theorem dX11_feed_19 : decode cX11_feed 19 = .ok (.invokevirtual 77, 3) := by decide +kernel
theorem dX11_feed_22 : decode cX11_feed 22 = .ok (.aload_n 0, 1) := by decide +kernel
theorem dX11_feed_23 : decode cX11_feed 23 = .ok (.getfield 10, 3) := by decide +kernel
theorem dX11_feed_26 : decode cX11_feed 26 = .ok (.iload_n 2, 1) := by decide +kernel
theorem dX11_feed_27 : decode cX11_feed 27 = .ok (.invokevirtual 77, 3) := by decide +kernel
theorem dX11_feed_30 : decode cX11_feed 30 = .ok (.aload_n 0, 1) := by decide +kernel
theorem dX11_feed_31 : decode cX11_feed 31 = .ok (.getfield 10, 3) := by decide +kernel
theorem dX11_feed_34 : decode cX11_feed 34 = .ok (.iload_n 3, 1) := by decide +kernel
theorem dX11_feed_35 : decode cX11_feed 35 = .ok (.invokevirtual 77, 3) := by decide +kernel
theorem dX11_feed_38 : decode cX11_feed 38 = .ok (.aload_n 0, 1) := by decide +kernel
theorem dX11_feed_39 : decode cX11_feed 39 = .ok (.getfield 10, 3) := by decide +kernel
theorem dX11_feed_42 : decode cX11_feed 42 = .ok (.iload 4, 2) := by decide +kernel
theorem dX11_feed_44 : decode cX11_feed 44 = .ok (.invokevirtual 77, 3) := by decide +kernel
theorem dX11_feed_47 : decode cX11_feed 47 = .ok (.aload_n 0, 1) := by decide +kernel
theorem dX11_feed_48 : decode cX11_feed 48 = .ok (.getfield 10, 3) := by decide +kernel
theorem dX11_feed_51 : decode cX11_feed 51 = .ok (.iload 5, 2) := by decide +kernel
theorem dX11_feed_53 : decode cX11_feed 53 = .ok (.invokevirtual 77, 3) := by decide +kernel
theorem dX11_feed_56 : decode cX11_feed 56 = .ok (.aload_n 0, 1) := by decide +kernel
theorem dX11_feed_57 : decode cX11_feed 57 = .ok (.getfield 10, 3) := by decide +kernel
theorem dX11_feed_60 : decode cX11_feed 60 = .ok (.getfield 81, 3) := by decide +kernel
theorem dX11_feed_63 : decode cX11_feed 63 = .ok (.ireturn, 1) := by decide +kernel
theorem dX11_end_0 : decode cX11_end 0 = .ok (.iload_n 1, 1) := by decide +kernel
theorem dX11_end_1 : decode cX11_end 1 = .ok (.ifCond .lt 14, 3) := by decide +kernel
theorem dX11_end_4 : decode cX11_end 4 = .ok (.iload_n 1, 1) := by decide +kernel
theorem dX11_end_5 : decode cX11_end 5 = .ok (.aload_n 0, 1) := by decide +kernel
theorem dX11_end_6 : decode cX11_end 6 = .ok (.getfield 10, 3) := by decide +kernel
theorem dX11_end_9 : decode cX11_end 9 = .ok (.getfield 81, 3) := by decide +kernel
theorem dX11_end_12 : decode cX11_end 12 = .ok (.if_icmp .le 5, 3) := by decide +kernel
theorem dX11_end_15 : decode cX11_end 15 = .ok (.iconst (-1), 1) := by decide +kernel
theorem dX11_end_16 : decode cX11_end 16 = .ok (.ireturn, 1) := by decide +kernel
theorem dX11_end_17 : decode cX11_end 17 = .ok (.aload_n 0, 1) := by decide +kernel
theorem dX11_end_18 : decode cX11_end 18 = .ok (.getfield 10, 3) := by decide +kernel
theorem dX11_end_21 : decode cX11_end 21 = .ok (.iload_n 1, 1) := by decide +kernel
theorem dX11_end_22 : decode cX11_end 22 = .ok (.putfield 81, 3) := by decide +kernel
theorem dX11_end_25 : decode cX11_end 25 = .ok (.iload_n 1, 1) := by decide +kernel
theorem dX11_end_26 : decode cX11_end 26 = .ok (.ireturn, 1) := by decide +kernel
theorem dX11_works_0 : decode cX11_works 0 = .ok (.new 84, 3) := by decide +kernel
theorem dX11_works_3 : decode cX11_works 3 = .ok (.dup, 1) := by decide +kernel
theorem dX11_works_4 : decode cX11_works 4 = .ok (.aload_n 0, 1) := by decide +kernel
theorem dX11_works_5 : decode cX11_works 5 = .ok (.getfield 10, 3) := by decide +kernel
theorem dX11_works_8 : decode cX11_works 8 = .ok (.invokespecial 86, 3) := by decide +kernel
theorem dX11_works_11 : decode cX11_works 11 = .ok (.invokevirtual 89, 3) := by decide +kernel
theorem dX11_works_14 : decode cX11_works 14 = .ok (.astore_n 1, 1) := by decide +kernel
theorem dX11_works_15 : decode cX11_works 15 = .ok (.aload_n 0, 1) := by decide +kernel
theorem dX11_works_16 : decode cX11_works 16 = .ok (.aload_n 0, 1) := by decide +kernel
theorem dX11_works_17 : decode cX11_works 17 = .ok (.getfield 10, 3) := by decide +kernel
theorem dX11_works_20 : decode cX11_works 20 = .ok (.getfield 93, 3) := by decide +kernel
theorem dX11_works_23 : decode cX11_works 23 = .ok (.putfield 66, 3) := by decide +kernel
theorem dX11_works_26 : decode cX11_works 26 = .ok (.aload_n 0, 1) := by decide +kernel
theorem dX11_works_27 : decode cX11_works 27 = .ok (.aload_n 0, 1) := by decide +kernel
theorem dX11_works_28 : decode cX11_works 28 = .ok (.getfield 10, 3) := by decide +kernel
theorem dX11_works_31 : decode cX11_works 31 = .ok (.getfield 96, 3) := by decide +kernel
theorem dX11_works_34 : decode cX11_works 34 = .ok (.putfield 70, 3) := by decide +kernel
theorem dX11_works_37 : decode cX11_works 37 = .ok (.aload_n 0, 1) := by decide +kernel
theorem dX11_works_38 : decode cX11_works 38 = .ok (.getfield 66, 3) := by decide +kernel
theorem dX11_works_41 : decode cX11_works 41 = .ok (.ifCond .eq 6, 3) := by decide +kernel
theorem dX11_works_44 : decode cX11_works 44 = .ok (.bipush (-4), 2) := by decide +kernel
theorem dX11_works_46 : decode cX11_works 46 = .ok (.ireturn, 1) := by decide +kernel
theorem dX11_works_47 : decode cX11_works 47 = .ok (.aload_n 0, 1) := by decide +kernel
theorem dX11_works_48 : decode cX11_works 48 = .ok (.getfield 10, 3) := by decide +kernel
theorem dX11_works_51 : decode cX11_works 51 = .ok (.iconst 0, 1) := by decide +kernel
theorem dX11_works_52 : decode cX11_works 52 = .ok (.putfield 81, 3) := by decide +kernel
theorem dX11_works_55 : decode cX11_works 55 = .ok (.aload_n 0, 1) := by decide +kernel
theorem dX11_works_56 : decode cX11_works 56 = .ok (.aload_n 1, 1) := by decide +kernel
theorem dX11_works_57 : decode cX11_works 57 = .ok (.putfield 62, 3) := by decide +kernel
theorem dX11_works_60 : decode cX11_works 60 = .ok (.aload_n 0, 1) := by decide +kernel
theorem dX11_works_61 : decode cX11_works 61 = .ok (.getfield 62, 3) := by decide +kernel
theorem dX11_works_64 : decode cX11_works 64 = .ok (.getfield 99, 3) := by decide +kernel
theorem dX11_works_67 : decode cX11_works 67 = .ok (.ireturn, 1) := by decide +kernel
theorem dX11_fault_0 : decode cX11_fault 0 = .ok (.iload_n 1, 1) := by decide +kernel
theorem dX11_fault_1 : decode cX11_fault 1 = .ok (.lookupswitch 37 #[(0, 27), (1, 32)], 27) := by decide +kernel
theorem dX11_fault_28 : decode cX11_fault 28 = .ok (.aload_n 0, 1) := by decide +kernel
theorem dX11_fault_29 : decode cX11_fault 29 = .ok (.getfield 66, 3) := by decide +kernel
theorem dX11_fault_32 : decode cX11_fault 32 = .ok (.ireturn, 1) := by decide +kernel
theorem dX11_fault_33 : decode cX11_fault 33 = .ok (.aload_n 0, 1) := by decide +kernel
theorem dX11_fault_34 : decode cX11_fault 34 = .ok (.getfield 70, 3) := by decide +kernel
theorem dX11_fault_37 : decode cX11_fault 37 = .ok (.ireturn, 1) := by decide +kernel
theorem dX11_fault_38 : decode cX11_fault 38 = .ok (.iconst (-1), 1) := by decide +kernel
theorem dX11_fault_39 : decode cX11_fault 39 = .ok (.ireturn, 1) := by decide +kernel
set_option maxRecDepth 20000 in
theorem ggX11_height_X10_hasPot : GoodIn wsX11_height wsX10_hasPot := goodIn_r _ [7, 8, 25, 26, 27, 28, 29, 30, 31, 32, 33, 34, 35, 36] (by decide +kernel) (by decide +kernel)
set_option maxRecDepth 20000 in
theorem gX11_height_X10_hasPot : GoodIn wsX11_height (wsV RX11 102 RX10 yX10_hasPot wsX10_hasPot) := goodIn_app (goodIn_of _ (by decide +kernel)) ggX11_height_X10_hasPot
set_option maxRecDepth 20000 in
theorem ggX11_height_X10_heightOf : GoodIn wsX11_height wsX10_heightOf := goodIn_r _ [12, 13, 25, 26, 27, 28, 29, 30, 31, 32, 33, 34, 35, 36] (by decide +kernel) (by decide +kernel)
set_option maxRecDepth 20000 in
theorem gX11_height_X10_heightOf : GoodIn wsX11_height (wsV RX11 105 RX10 yX10_heightOf wsX10_heightOf) := goodIn_app (goodIn_of _ (by decide +kernel)) ggX11_height_X10_heightOf
theorem dX11_height_0 : decode cX11_height 0 = .ok (.aload_n 0, 1) := by decide +kernel
theorem dX11_height_1 : decode cX11_height 1 = .ok (.getfield 62, 3) := by decide +kernel
theorem dX11_height_4 : decode cX11_height 4 = .ok (.iload_n 1, 1) := by decide +kernel
theorem dX11_height_5 : decode cX11_height 5 = .ok (.invokevirtual 102, 3) := by decide +kernel
theorem dX11_height_8 : decode cX11_height 8 = .ok (.ifCond .eq 14, 3) := by decide +kernel
theorem dX11_height_11 : decode cX11_height 11 = .ok (.aload_n 0, 1) := by decide +kernel
theorem dX11_height_12 : decode cX11_height 12 = .ok (.getfield 62, 3) := by decide +kernel
theorem dX11_height_15 : decode cX11_height 15 = .ok (.iload_n 1, 1) := by decide +kernel
theorem dX11_height_16 : decode cX11_height 16 = .ok (.invokevirtual 105, 3) := by decide +kernel
theorem dX11_height_19 : decode cX11_height 19 = .ok (.goto 5, 3) := by decide +kernel
theorem dX11_height_22 : decode cX11_height 22 = .ok (.ldc 109, 2) := by decide +kernel
theorem dX11_height_24 : decode cX11_height 24 = .ok (.ireturn, 1) := by decide +kernel
set_option maxRecDepth 20000 in
theorem ggX11_pipe_X10_pipeAt : GoodIn wsX11_pipe wsX10_pipeAt := goodIn_r _ [14, 15, 16, 56, 57, 58, 59, 60, 61, 62, 63, 64, 65, 66, 67] (by decide +kernel) (by decide +kernel)
set_option maxRecDepth 20000 in
theorem gX11_pipe_X10_pipeAt : GoodIn wsX11_pipe (wsV RX11 110 RX10 yX10_pipeAt wsX10_pipeAt) := goodIn_app (goodIn_of _ (by decide +kernel)) ggX11_pipe_X10_pipeAt
set_option maxRecDepth 20000 in
theorem ggX11_pipe_X3_leverOfAll : GoodIn wsX11_pipe wsX3_leverOfAll := goodIn_r _ [21, 22, 23, 24, 25, 26, 45, 46, 47, 48, 49, 50, 51, 52, 53, 54, 55] (by decide +kernel) (by decide +kernel)
set_option maxRecDepth 20000 in
theorem gX11_pipe_X3_leverOfAll : GoodIn wsX11_pipe (wsV RX11 134 RX3 yX3_leverOfAll wsX3_leverOfAll) := goodIn_app (goodIn_of _ (by decide +kernel)) ggX11_pipe_X3_leverOfAll
theorem dX11_pipe_0 : decode cX11_pipe 0 = .ok (.aload_n 0, 1) := by decide +kernel
theorem dX11_pipe_1 : decode cX11_pipe 1 = .ok (.getfield 62, 3) := by decide +kernel
theorem dX11_pipe_4 : decode cX11_pipe 4 = .ok (.iload_n 1, 1) := by decide +kernel
theorem dX11_pipe_5 : decode cX11_pipe 5 = .ok (.invokevirtual 110, 3) := by decide +kernel
theorem dX11_pipe_8 : decode cX11_pipe 8 = .ok (.astore_n 3, 1) := by decide +kernel
theorem dX11_pipe_9 : decode cX11_pipe 9 = .ok (.aload_n 3, 1) := by decide +kernel
theorem dX11_pipe_10 : decode cX11_pipe 10 = .ok (.ifnonnull 6, 3) := by decide +kernel
theorem dX11_pipe_13 : decode cX11_pipe 13 = .ok (.ldc 109, 2) := by decide +kernel
theorem dX11_pipe_15 : decode cX11_pipe 15 = .ok (.ireturn, 1) := by decide +kernel
theorem dX11_pipe_16 : decode cX11_pipe 16 = .ok (.iload_n 2, 1) := by decide +kernel
theorem dX11_pipe_17 : decode cX11_pipe 17 = .ok (.tableswitch 123 0 7 #[47, 52, 57, 65, 73, 86, 94, 118], 47) := by decide +kernel
theorem dX11_pipe_64 : decode cX11_pipe 64 = .ok (.aload_n 3, 1) := by decide +kernel
theorem dX11_pipe_65 : decode cX11_pipe 65 = .ok (.getfield 114, 3) := by decide +kernel
theorem dX11_pipe_68 : decode cX11_pipe 68 = .ok (.ireturn, 1) := by decide +kernel
theorem dX11_pipe_69 : decode cX11_pipe 69 = .ok (.aload_n 3, 1) := by decide +kernel
theorem dX11_pipe_70 : decode cX11_pipe 70 = .ok (.getfield 119, 3) := by decide +kernel
theorem dX11_pipe_73 : decode cX11_pipe 73 = .ok (.ireturn, 1) := by decide +kernel
theorem dX11_pipe_74 : decode cX11_pipe 74 = .ok (.aload_n 3, 1) := by decide +kernel
theorem dX11_pipe_75 : decode cX11_pipe 75 = .ok (.getfield 122, 3) := by decide +kernel
theorem dX11_pipe_78 : decode cX11_pipe 78 = .ok (.getfield 125, 3) := by decide +kernel
theorem dX11_pipe_81 : decode cX11_pipe 81 = .ok (.ireturn, 1) := by decide +kernel
theorem dX11_pipe_82 : decode cX11_pipe 82 = .ok (.aload_n 3, 1) := by decide +kernel
theorem dX11_pipe_83 : decode cX11_pipe 83 = .ok (.getfield 122, 3) := by decide +kernel
theorem dX11_pipe_86 : decode cX11_pipe 86 = .ok (.getfield 128, 3) := by decide +kernel
theorem dX11_pipe_89 : decode cX11_pipe 89 = .ok (.ireturn, 1) := by decide +kernel
theorem dX11_pipe_90 : decode cX11_pipe 90 = .ok (.aload_n 3, 1) := by decide +kernel
theorem dX11_pipe_91 : decode cX11_pipe 91 = .ok (.getfield 122, 3) := by decide +kernel
theorem dX11_pipe_94 : decode cX11_pipe 94 = .ok (.getfield 128, 3) := by decide +kernel
theorem dX11_pipe_97 : decode cX11_pipe 97 = .ok (.aload_n 3, 1) := by decide +kernel
theorem dX11_pipe_98 : decode cX11_pipe 98 = .ok (.getfield 131, 3) := by decide +kernel
theorem dX11_pipe_101 : decode cX11_pipe 101 = .ok (.imul, 1) := by decide +kernel
theorem dX11_pipe_102 : decode cX11_pipe 102 = .ok (.ireturn, 1) := by decide +kernel
theorem dX11_pipe_103 : decode cX11_pipe 103 = .ok (.aload_n 3, 1) := by decide +kernel
theorem dX11_pipe_104 : decode cX11_pipe 104 = .ok (.getfield 122, 3) := by decide +kernel
theorem dX11_pipe_107 : decode cX11_pipe 107 = .ok (.invokevirtual 134, 3) := by decide +kernel
theorem dX11_pipe_110 : decode cX11_pipe 110 = .ok (.ireturn, 1) := by decide +kernel
theorem dX11_pipe_111 : decode cX11_pipe 111 = .ok (.aload_n 3, 1) := by decide +kernel
theorem dX11_pipe_112 : decode cX11_pipe 112 = .ok (.getfield 119, 3) := by decide +kernel
theorem dX11_pipe_115 : decode cX11_pipe 115 = .ok (.aload_n 3, 1) := by decide +kernel
theorem dX11_pipe_116 : decode cX11_pipe 116 = .ok (.getfield 114, 3) := by decide +kernel
theorem dX11_pipe_119 : decode cX11_pipe 119 = .ok (.isub, 1) := by decide +kernel
theorem dX11_pipe_120 : decode cX11_pipe 120 = .ok (.iconst 1, 1) := by decide +kernel
theorem dX11_pipe_121 : decode cX11_pipe 121 = .ok (.if_icmp .le 12, 3) := by decide +kernel
theorem dX11_pipe_124 : decode cX11_pipe 124 = .ok (.aload_n 3, 1) := by decide +kernel
theorem dX11_pipe_125 : decode cX11_pipe 125 = .ok (.getfield 114, 3) := by decide +kernel
theorem dX11_pipe_128 : decode cX11_pipe 128 = .ok (.iconst 1, 1) := by decide +kernel
theorem dX11_pipe_129 : decode cX11_pipe 129 = .ok (.iadd, 1) := by decide +kernel
theorem dX11_pipe_130 : decode cX11_pipe 130 = .ok (.goto 4, 3) := by decide +kernel
theorem dX11_pipe_133 : decode cX11_pipe 133 = .ok (.iconst (-1), 1) := by decide +kernel
theorem dX11_pipe_134 : decode cX11_pipe 134 = .ok (.ireturn, 1) := by decide +kernel
theorem dX11_pipe_135 : decode cX11_pipe 135 = .ok (.aload_n 3, 1) := by decide +kernel
theorem dX11_pipe_136 : decode cX11_pipe 136 = .ok (.getfield 138, 3) := by decide +kernel
theorem dX11_pipe_139 : decode cX11_pipe 139 = .ok (.ireturn, 1) := by decide +kernel
theorem dX11_pipe_140 : decode cX11_pipe 140 = .ok (.ldc 109, 2) := by decide +kernel
theorem dX11_pipe_142 : decode cX11_pipe 142 = .ok (.ireturn, 1) := by decide +kernel
set_option maxRecDepth 20000 in
theorem ggX11_bend_X10_pipeAt : GoodIn wsX11_bend wsX10_pipeAt := goodIn_r _ [8, 9, 10, 40, 41, 42, 43, 44, 45, 46, 47, 48, 49, 50, 51] (by decide +kernel) (by decide +kernel)
set_option maxRecDepth 20000 in
theorem gX11_bend_X10_pipeAt : GoodIn wsX11_bend (wsV RX11 110 RX10 yX10_pipeAt wsX10_pipeAt) := goodIn_app (goodIn_of _ (by decide +kernel)) ggX11_bend_X10_pipeAt
set_option maxRecDepth 20000 in
theorem ggX11_bend_X3_ofBend : GoodIn wsX11_bend wsX3_ofBend := goodIn_r _ [15, 16, 17, 18, 19, 20, 21, 52, 53, 54, 55, 56, 57, 58, 59, 60, 61, 62] (by decide +kernel) (by decide +kernel)
set_option maxRecDepth 20000 in
theorem gX11_bend_X3_ofBend : GoodIn wsX11_bend (wsV RX11 141 RX3 yX3_ofBend wsX3_ofBend) := goodIn_app (goodIn_of _ (by decide +kernel)) ggX11_bend_X3_ofBend
theorem dX11_bend_0 : decode cX11_bend 0 = .ok (.aload_n 0, 1) := by decide +kernel
theorem dX11_bend_1 : decode cX11_bend 1 = .ok (.getfield 62, 3) := by decide +kernel
theorem dX11_bend_4 : decode cX11_bend 4 = .ok (.iload_n 1, 1) := by decide +kernel
theorem dX11_bend_5 : decode cX11_bend 5 = .ok (.invokevirtual 110, 3) := by decide +kernel
theorem dX11_bend_8 : decode cX11_bend 8 = .ok (.astore 4, 2) := by decide +kernel
theorem dX11_bend_10 : decode cX11_bend 10 = .ok (.aload 4, 2) := by decide +kernel
theorem dX11_bend_12 : decode cX11_bend 12 = .ok (.ifnonnull 8, 3) := by decide +kernel
theorem dX11_bend_15 : decode cX11_bend 15 = .ok (.ldc 109, 2) := by decide +kernel
theorem dX11_bend_17 : decode cX11_bend 17 = .ok (.goto 13, 3) := by decide +kernel
theorem dX11_bend_20 : decode cX11_bend 20 = .ok (.aload 4, 2) := by decide +kernel
theorem dX11_bend_22 : decode cX11_bend 22 = .ok (.getfield 122, 3) := by decide +kernel
theorem dX11_bend_25 : decode cX11_bend 25 = .ok (.iload_n 2, 1) := by decide +kernel
theorem dX11_bend_26 : decode cX11_bend 26 = .ok (.iload_n 3, 1) := by decide +kernel
theorem dX11_bend_27 : decode cX11_bend 27 = .ok (.invokevirtual 141, 3) := by decide +kernel
theorem dX11_bend_30 : decode cX11_bend 30 = .ok (.ireturn, 1) := by decide +kernel
set_option maxRecDepth 20000 in
theorem ggX11_need_X11_isStrained : GoodIn wsX11_need wsX11_isStrained := goodIn_r _ [7, 8, 1, 9, 10, 11, 12, 13, 14, 15, 16, 17, 18, 19, 20, 21, 22, 23, 24, 25, 26, 27, 28, 29, 30, 31, 32, 33, 34, 35, 36, 37, 38, 39, 40, 41, 49, 50, 51, 52, 53, 54, 55, 56, 57, 58, 59, 60, 61, 62, 63, 64, 65, 66, 67, 68, 69, 70, 71, 72, 73, 74, 75, 76, 77, 78, 79, 80, 81, 82, 83, 84, 85, 86, 87, 88, 89, 90, 91, 92, 93, 94, 95] (by decide +kernel) (by decide +kernel)
set_option maxRecDepth 20000 in
theorem gX11_need_X11_isStrained : GoodIn wsX11_need (wsV RX11 145 RX11 yX11_isStrained wsX11_isStrained) := goodIn_app (goodIn_of _ (by decide +kernel)) ggX11_need_X11_isStrained
set_option maxRecDepth 20000 in
theorem ggX11_need_X11_isPress : GoodIn wsX11_need wsX11_isPress := goodIn_r _ [44] (by decide +kernel) (by decide +kernel)
set_option maxRecDepth 20000 in
theorem gX11_need_X11_isPress : GoodIn wsX11_need (va_wsS RX11 148 yX11_isPress wsX11_isPress) := goodIn_app (goodIn_of _ (by decide +kernel)) ggX11_need_X11_isPress
set_option maxRecDepth 20000 in
theorem ggX11_need_X8_needAt : GoodIn wsX11_need wsX8_needAt := goodIn_r _ [48, 24, 27, 79, 80, 81, 82, 83, 84] (by decide +kernel) (by decide +kernel)
set_option maxRecDepth 20000 in
theorem gX11_need_X8_needAt : GoodIn wsX11_need (wsV RX11 151 RX8 yX8_needAt wsX8_needAt) := goodIn_app (goodIn_of _ (by decide +kernel)) ggX11_need_X8_needAt
theorem dX11_need_0 : decode cX11_need 0 = .ok (.aload_n 0, 1) := by decide +kernel
theorem dX11_need_1 : decode cX11_need 1 = .ok (.iload_n 1, 1) := by decide +kernel
theorem dX11_need_2 : decode cX11_need 2 = .ok (.invokevirtual 145, 3) := by decide +kernel
theorem dX11_need_5 : decode cX11_need 5 = .ok (.ifCond .eq 21, 3) := by decide +kernel
theorem dX11_need_8 : decode cX11_need 8 = .ok (.iload_n 2, 1) := by decide +kernel
theorem dX11_need_9 : decode cX11_need 9 = .ok (.invokestatic 148, 3) := by decide +kernel
theorem dX11_need_12 : decode cX11_need 12 = .ok (.ifCond .eq 14, 3) := by decide +kernel
theorem dX11_need_15 : decode cX11_need 15 = .ok (.aload_n 0, 1) := by decide +kernel
theorem dX11_need_16 : decode cX11_need 16 = .ok (.getfield 32, 3) := by decide +kernel
theorem dX11_need_19 : decode cX11_need 19 = .ok (.iload_n 2, 1) := by decide +kernel
theorem dX11_need_20 : decode cX11_need 20 = .ok (.invokevirtual 151, 3) := by decide +kernel
theorem dX11_need_23 : decode cX11_need 23 = .ok (.goto 6, 3) := by decide +kernel
theorem dX11_need_26 : decode cX11_need 26 = .ok (.ldc2_w 155, 3) := by decide +kernel
theorem dX11_need_29 : decode cX11_need 29 = .ok (.lreturn, 1) := by decide +kernel
set_option maxRecDepth 20000 in
theorem ggX11_load_X11_isStrained : GoodIn wsX11_load wsX11_isStrained := goodIn_r _ [6, 7, 1, 8, 9, 10, 11, 12, 13, 14, 15, 16, 17, 18, 19, 20, 21, 22, 23, 24, 25, 26, 27, 28, 29, 30, 31, 32, 33, 34, 35, 36, 37, 38, 39, 40, 56, 57, 58, 59, 60, 61, 62, 63, 64, 65, 66, 67, 68, 69, 70, 71, 72, 73, 74, 75, 76, 77, 78, 79, 80, 81, 82, 83, 84, 85, 86, 87, 88, 89, 90, 91, 92, 93, 94, 95, 96, 97, 98, 99, 100, 101, 102] (by decide +kernel) (by decide +kernel)
set_option maxRecDepth 20000 in
theorem gX11_load_X11_isStrained : GoodIn wsX11_load (wsV RX11 145 RX11 yX11_isStrained wsX11_isStrained) := goodIn_app (goodIn_of _ (by decide +kernel)) ggX11_load_X11_isStrained
set_option maxRecDepth 20000 in
theorem ggX11_load_X11_isPress : GoodIn wsX11_load wsX11_isPress := goodIn_r _ [43] (by decide +kernel) (by decide +kernel)
set_option maxRecDepth 20000 in
theorem gX11_load_X11_isPress : GoodIn wsX11_load (va_wsS RX11 148 yX11_isPress wsX11_isPress) := goodIn_app (goodIn_of _ (by decide +kernel)) ggX11_load_X11_isPress
set_option maxRecDepth 20000 in
theorem ggX11_load_X8_loadAt : GoodIn wsX11_load wsX8_loadAt := goodIn_r _ [47, 28, 48, 49, 50, 39, 51, 52, 53, 54, 20, 55, 23, 26, 86, 87, 88, 89, 90, 91] (by decide +kernel) (by decide +kernel)
set_option maxRecDepth 20000 in
theorem gX11_load_X8_loadAt : GoodIn wsX11_load (wsV RX11 157 RX8 yX8_loadAt wsX8_loadAt) := goodIn_app (goodIn_of _ (by decide +kernel)) ggX11_load_X8_loadAt
theorem dX11_load_0 : decode cX11_load 0 = .ok (.aload_n 0, 1) := by decide +kernel
theorem dX11_load_1 : decode cX11_load 1 = .ok (.iload_n 1, 1) := by decide +kernel
theorem dX11_load_2 : decode cX11_load 2 = .ok (.invokevirtual 145, 3) := by decide +kernel
theorem dX11_load_5 : decode cX11_load 5 = .ok (.ifCond .eq 21, 3) := by decide +kernel
theorem dX11_load_8 : decode cX11_load 8 = .ok (.iload_n 2, 1) := by decide +kernel
theorem dX11_load_9 : decode cX11_load 9 = .ok (.invokestatic 148, 3) := by decide +kernel
theorem dX11_load_12 : decode cX11_load 12 = .ok (.ifCond .eq 14, 3) := by decide +kernel
theorem dX11_load_15 : decode cX11_load 15 = .ok (.aload_n 0, 1) := by decide +kernel
theorem dX11_load_16 : decode cX11_load 16 = .ok (.getfield 32, 3) := by decide +kernel
theorem dX11_load_19 : decode cX11_load 19 = .ok (.iload_n 2, 1) := by decide +kernel
theorem dX11_load_20 : decode cX11_load 20 = .ok (.invokevirtual 157, 3) := by decide +kernel
theorem dX11_load_23 : decode cX11_load 23 = .ok (.goto 5, 3) := by decide +kernel
theorem dX11_load_26 : decode cX11_load 26 = .ok (.bipush (-2), 2) := by decide +kernel
theorem dX11_load_28 : decode cX11_load 28 = .ok (.ireturn, 1) := by decide +kernel
set_option maxRecDepth 20000 in
theorem ggX11_bows_X11_isStrained : GoodIn wsX11_bows wsX11_isStrained := goodIn_r _ [6, 7, 1, 8, 9, 10, 11, 12, 13, 14, 15, 16, 17, 18, 19, 20, 21, 22, 23, 24, 25, 26, 27, 28, 29, 30, 31, 32, 33, 34, 35, 36, 37, 38, 39, 40, 57, 58, 59, 60, 61, 62, 63, 64, 65, 66, 67, 68, 69, 70, 71, 72, 73, 74, 75, 76, 77, 78, 79, 80, 81, 82, 83, 84, 85, 86, 87, 88, 89, 90, 91, 92, 93, 94, 95, 96, 97, 98, 99, 100, 101, 102, 103] (by decide +kernel) (by decide +kernel)
set_option maxRecDepth 20000 in
theorem gX11_bows_X11_isStrained : GoodIn wsX11_bows (wsV RX11 145 RX11 yX11_isStrained wsX11_isStrained) := goodIn_app (goodIn_of _ (by decide +kernel)) ggX11_bows_X11_isStrained
set_option maxRecDepth 20000 in
theorem ggX11_bows_X8_leastBowing : GoodIn wsX11_bows wsX8_leastBowing := goodIn_r _ [44, 45, 46, 47, 20, 48, 28, 49, 50, 51, 39, 52, 53, 54, 55, 56, 23, 26, 87, 88, 89, 90, 91, 92] (by decide +kernel) (by decide +kernel)
set_option maxRecDepth 20000 in
theorem gX11_bows_X8_leastBowing : GoodIn wsX11_bows (wsV RX11 160 RX8 yX8_leastBowing wsX8_leastBowing) := goodIn_app (goodIn_of _ (by decide +kernel)) ggX11_bows_X8_leastBowing
theorem dX11_bows_0 : decode cX11_bows 0 = .ok (.aload_n 0, 1) := by decide +kernel
theorem dX11_bows_1 : decode cX11_bows 1 = .ok (.iload_n 1, 1) := by decide +kernel
theorem dX11_bows_2 : decode cX11_bows 2 = .ok (.invokevirtual 145, 3) := by decide +kernel
theorem dX11_bows_5 : decode cX11_bows 5 = .ok (.ifCond .eq 13, 3) := by decide +kernel
theorem dX11_bows_8 : decode cX11_bows 8 = .ok (.aload_n 0, 1) := by decide +kernel
theorem dX11_bows_9 : decode cX11_bows 9 = .ok (.getfield 32, 3) := by decide +kernel
theorem dX11_bows_12 : decode cX11_bows 12 = .ok (.invokevirtual 160, 3) := by decide +kernel
theorem dX11_bows_15 : decode cX11_bows 15 = .ok (.goto 5, 3) := by decide +kernel
theorem dX11_bows_18 : decode cX11_bows 18 = .ok (.bipush (-2), 2) := by decide +kernel
theorem dX11_bows_20 : decode cX11_bows 20 = .ok (.ireturn, 1) := by decide +kernel
set_option maxRecDepth 20000 in
theorem ggX11_press_X1_has : GoodIn wsX11_press wsX1_has := goodIn_r _ [7, 8, 52, 53, 54, 55, 56] (by decide +kernel) (by decide +kernel)
set_option maxRecDepth 20000 in
theorem gX11_press_X1_has : GoodIn wsX11_press (wsV RX11 166 RX1 yX1_has wsX1_has) := goodIn_app (goodIn_of _ (by decide +kernel)) ggX11_press_X1_has
set_option maxRecDepth 20000 in
theorem ggX11_press_X1_pressAt : GoodIn wsX11_press wsX1_pressAt := goodIn_r _ [12, 13, 14, 15, 16, 6, 17, 18, 19, 20, 21, 22, 23, 24, 25, 26, 27, 28, 52, 53, 54, 55, 56] (by decide +kernel) (by decide +kernel)
set_option maxRecDepth 20000 in
theorem gX11_press_X1_pressAt : GoodIn wsX11_press (wsV RX11 169 RX1 yX1_pressAt wsX1_pressAt) := goodIn_app (goodIn_of _ (by decide +kernel)) ggX11_press_X1_pressAt
theorem dX11_press_0 : decode cX11_press 0 = .ok (.aload_n 0, 1) := by decide +kernel
theorem dX11_press_1 : decode cX11_press 1 = .ok (.getfield 62, 3) := by decide +kernel
theorem dX11_press_4 : decode cX11_press 4 = .ok (.getfield 163, 3) := by decide +kernel
theorem dX11_press_7 : decode cX11_press 7 = .ok (.iload_n 1, 1) := by decide +kernel
theorem dX11_press_8 : decode cX11_press 8 = .ok (.invokevirtual 166, 3) := by decide +kernel
theorem dX11_press_11 : decode cX11_press 11 = .ok (.ifCond .eq 17, 3) := by decide +kernel
theorem dX11_press_14 : decode cX11_press 14 = .ok (.aload_n 0, 1) := by decide +kernel
theorem dX11_press_15 : decode cX11_press 15 = .ok (.getfield 62, 3) := by decide +kernel
theorem dX11_press_18 : decode cX11_press 18 = .ok (.getfield 163, 3) := by decide +kernel
theorem dX11_press_21 : decode cX11_press 21 = .ok (.iload_n 1, 1) := by decide +kernel
theorem dX11_press_22 : decode cX11_press 22 = .ok (.invokevirtual 169, 3) := by decide +kernel
theorem dX11_press_25 : decode cX11_press 25 = .ok (.goto 5, 3) := by decide +kernel
theorem dX11_press_28 : decode cX11_press 28 = .ok (.bipush (-2), 2) := by decide +kernel
theorem dX11_press_30 : decode cX11_press 30 = .ok (.ireturn, 1) := by decide +kernel
set_option maxRecDepth 20000 in
theorem ggX11_wear_X1_has : GoodIn wsX11_wear wsX1_has := goodIn_r _ [8, 9, 112, 113, 114, 115, 116] (by decide +kernel) (by decide +kernel)
set_option maxRecDepth 20000 in
theorem gX11_wear_X1_has : GoodIn wsX11_wear (wsV RX11 166 RX1 yX1_has wsX1_has) := goodIn_app (goodIn_of _ (by decide +kernel)) ggX11_wear_X1_has
set_option maxRecDepth 20000 in
theorem ggX11_wear_X11_isStrained : GoodIn wsX11_wear wsX11_isStrained := goodIn_r _ [14, 1, 3, 15, 16, 17, 18, 19, 20, 21, 22, 23, 24, 25, 26, 27, 28, 29, 30, 31, 32, 33, 34, 35, 36, 37, 38, 39, 40, 41, 42, 43, 44, 45, 46, 47, 89, 90, 91, 92, 93, 94, 95, 96, 97, 98, 99, 117, 118, 119, 120, 121, 122, 123, 100, 101, 102, 103, 104, 105, 106, 107, 108, 109, 110, 111, 124, 125, 126, 127, 128, 129, 130, 131, 132, 133, 134, 135, 136, 137, 138, 139, 140] (by decide +kernel) (by decide +kernel)
set_option maxRecDepth 20000 in
theorem gX11_wear_X11_isStrained : GoodIn wsX11_wear (wsV RX11 145 RX11 yX11_isStrained wsX11_isStrained) := goodIn_app (goodIn_of _ (by decide +kernel)) ggX11_wear_X11_isStrained
set_option maxRecDepth 20000 in
theorem ggX11_wear_X8_wearBehind : GoodIn wsX11_wear wsX8_wearBehind := goodIn_r _ [51, 52, 53, 54, 55, 27, 56, 57, 58, 59, 60, 46, 61, 37, 62, 63, 64, 7, 65, 66, 67, 68, 69, 70, 35, 71, 72, 73, 74, 75, 76, 77, 78, 30, 33, 79, 80, 81, 82, 83, 84, 85, 86, 87, 88, 124, 125, 126, 127, 128, 129, 112, 113, 114, 115, 116] (by decide +kernel) (by decide +kernel)
set_option maxRecDepth 20000 in
theorem gX11_wear_X8_wearBehind : GoodIn wsX11_wear (wsV RX11 172 RX8 yX8_wearBehind wsX8_wearBehind) := goodIn_app (goodIn_of _ (by decide +kernel)) ggX11_wear_X8_wearBehind
theorem dX11_wear_0 : decode cX11_wear 0 = .ok (.aload_n 0, 1) := by decide +kernel
theorem dX11_wear_1 : decode cX11_wear 1 = .ok (.getfield 62, 3) := by decide +kernel
theorem dX11_wear_4 : decode cX11_wear 4 = .ok (.getfield 163, 3) := by decide +kernel
theorem dX11_wear_7 : decode cX11_wear 7 = .ok (.iload_n 2, 1) := by decide +kernel
theorem dX11_wear_8 : decode cX11_wear 8 = .ok (.invokevirtual 166, 3) := by decide +kernel
theorem dX11_wear_11 : decode cX11_wear 11 = .ok (.ifCond .eq 29, 3) := by decide +kernel
theorem dX11_wear_14 : decode cX11_wear 14 = .ok (.aload_n 0, 1) := by decide +kernel
theorem dX11_wear_15 : decode cX11_wear 15 = .ok (.iload_n 1, 1) := by decide +kernel
theorem dX11_wear_16 : decode cX11_wear 16 = .ok (.invokevirtual 145, 3) := by decide +kernel
theorem dX11_wear_19 : decode cX11_wear 19 = .ok (.ifCond .eq 21, 3) := by decide +kernel
theorem dX11_wear_22 : decode cX11_wear 22 = .ok (.aload_n 0, 1) := by decide +kernel
theorem dX11_wear_23 : decode cX11_wear 23 = .ok (.getfield 32, 3) := by decide +kernel
theorem dX11_wear_26 : decode cX11_wear 26 = .ok (.aload_n 0, 1) := by decide +kernel
theorem dX11_wear_27 : decode cX11_wear 27 = .ok (.getfield 62, 3) := by decide +kernel
theorem dX11_wear_30 : decode cX11_wear 30 = .ok (.getfield 163, 3) := by decide +kernel
theorem dX11_wear_33 : decode cX11_wear 33 = .ok (.iload_n 2, 1) := by decide +kernel
theorem dX11_wear_34 : decode cX11_wear 34 = .ok (.invokevirtual 172, 3) := by decide +kernel
theorem dX11_wear_37 : decode cX11_wear 37 = .ok (.goto 5, 3) := by decide +kernel
theorem dX11_wear_40 : decode cX11_wear 40 = .ok (.bipush (-2), 2) := by decide +kernel
theorem dX11_wear_42 : decode cX11_wear 42 = .ok (.ireturn, 1) := by decide +kernel
set_option maxRecDepth 20000 in
theorem ggX11_goes_X11_isStrained : GoodIn wsX11_goes wsX11_isStrained := goodIn_r _ [8, 2, 1, 9, 10, 11, 12, 13, 14, 15, 16, 17, 18, 19, 20, 21, 22, 23, 24, 25, 26, 27, 28, 29, 30, 31, 32, 33, 34, 35, 36, 37, 38, 39, 40, 41, 85, 86, 87, 88, 89, 90, 91, 92, 93, 94, 95, 108, 109, 110, 111, 112, 113, 114, 96, 97, 98, 99, 100, 101, 102, 103, 104, 105, 106, 107, 115, 116, 117, 118, 119, 120, 121, 122, 123, 124, 125, 126, 127, 128, 129, 130, 131] (by decide +kernel) (by decide +kernel)
set_option maxRecDepth 20000 in
theorem gX11_goes_X11_isStrained : GoodIn wsX11_goes (wsV RX11 145 RX11 yX11_isStrained wsX11_isStrained) := goodIn_app (goodIn_of _ (by decide +kernel)) ggX11_goes_X11_isStrained
set_option maxRecDepth 20000 in
theorem ggX11_goes_X8_goingHour : GoodIn wsX11_goes wsX8_goingHour := goodIn_r _ [45, 46, 47, 48, 49, 21, 50, 51, 52, 53, 54, 55, 40, 56, 31, 57, 58, 59, 60, 61, 62, 63, 64, 65, 66, 29, 67, 68, 69, 70, 71, 72, 73, 74, 24, 27, 75, 76, 77, 78, 79, 80, 81, 82, 83, 84, 132, 133, 134, 135, 136, 115, 116, 117, 118, 119, 120] (by decide +kernel) (by decide +kernel)
set_option maxRecDepth 20000 in
theorem gX11_goes_X8_goingHour : GoodIn wsX11_goes (wsV RX11 176 RX8 yX8_goingHour wsX8_goingHour) := goodIn_app (goodIn_of _ (by decide +kernel)) ggX11_goes_X8_goingHour
theorem dX11_goes_0 : decode cX11_goes 0 = .ok (.aload_n 0, 1) := by decide +kernel
theorem dX11_goes_1 : decode cX11_goes 1 = .ok (.iload_n 1, 1) := by decide +kernel
theorem dX11_goes_2 : decode cX11_goes 2 = .ok (.invokevirtual 145, 3) := by decide +kernel
theorem dX11_goes_5 : decode cX11_goes 5 = .ok (.ifCond .eq 20, 3) := by decide +kernel
theorem dX11_goes_8 : decode cX11_goes 8 = .ok (.aload_n 0, 1) := by decide +kernel
theorem dX11_goes_9 : decode cX11_goes 9 = .ok (.getfield 32, 3) := by decide +kernel
theorem dX11_goes_12 : decode cX11_goes 12 = .ok (.aload_n 0, 1) := by decide +kernel
theorem dX11_goes_13 : decode cX11_goes 13 = .ok (.getfield 62, 3) := by decide +kernel
theorem dX11_goes_16 : decode cX11_goes 16 = .ok (.getfield 163, 3) := by decide +kernel
theorem dX11_goes_19 : decode cX11_goes 19 = .ok (.invokevirtual 176, 3) := by decide +kernel
theorem dX11_goes_22 : decode cX11_goes 22 = .ok (.goto 5, 3) := by decide +kernel
theorem dX11_goes_25 : decode cX11_goes 25 = .ok (.bipush (-2), 2) := by decide +kernel
theorem dX11_goes_27 : decode cX11_goes 27 = .ok (.ireturn, 1) := by decide +kernel
set_option maxRecDepth 20000 in
theorem ggX11_why_X11_isStrained : GoodIn wsX11_why wsX11_isStrained := goodIn_r _ [9, 2, 1, 10, 11, 12, 13, 14, 15, 16, 17, 18, 19, 20, 21, 22, 23, 24, 25, 26, 27, 28, 29, 30, 31, 32, 33, 34, 35, 36, 37, 38, 39, 40, 41, 42, 86, 87, 88, 89, 90, 91, 92, 93, 94, 95, 96, 115, 116, 117, 118, 119, 120, 121, 97, 98, 99, 100, 101, 102, 103, 104, 105, 106, 107, 108, 109, 110, 111, 112, 113, 114, 122, 123, 124, 125, 126, 127, 128, 129, 130, 131, 132] (by decide +kernel) (by decide +kernel)
set_option maxRecDepth 20000 in
theorem gX11_why_X11_isStrained : GoodIn wsX11_why (wsV RX11 145 RX11 yX11_isStrained wsX11_isStrained) := goodIn_app (goodIn_of _ (by decide +kernel)) ggX11_why_X11_isStrained
set_option maxRecDepth 20000 in
theorem ggX11_why_X8_goingHour : GoodIn wsX11_why wsX8_goingHour := goodIn_r _ [46, 47, 48, 49, 50, 22, 51, 52, 53, 54, 55, 56, 41, 57, 32, 58, 59, 60, 61, 62, 63, 64, 65, 66, 67, 30, 68, 69, 70, 71, 72, 73, 74, 75, 25, 28, 76, 77, 78, 79, 80, 81, 82, 83, 84, 85, 133, 134, 135, 136, 137, 109, 110, 111, 112, 113, 114] (by decide +kernel) (by decide +kernel)
set_option maxRecDepth 20000 in
theorem gX11_why_X8_goingHour : GoodIn wsX11_why (wsV RX11 176 RX8 yX8_goingHour wsX8_goingHour) := goodIn_app (goodIn_of _ (by decide +kernel)) ggX11_why_X8_goingHour
theorem dX11_why_0 : decode cX11_why 0 = .ok (.aload_n 0, 1) := by decide +kernel
theorem dX11_why_1 : decode cX11_why 1 = .ok (.iload_n 1, 1) := by decide +kernel
theorem dX11_why_2 : decode cX11_why 2 = .ok (.invokevirtual 145, 3) := by decide +kernel
theorem dX11_why_5 : decode cX11_why 5 = .ok (.ifCond .ne 6, 3) := by decide +kernel
theorem dX11_why_8 : decode cX11_why 8 = .ok (.bipush (-2), 2) := by decide +kernel
theorem dX11_why_10 : decode cX11_why 10 = .ok (.ireturn, 1) := by decide +kernel
theorem dX11_why_11 : decode cX11_why 11 = .ok (.aload_n 0, 1) := by decide +kernel
theorem dX11_why_12 : decode cX11_why 12 = .ok (.getfield 32, 3) := by decide +kernel
theorem dX11_why_15 : decode cX11_why 15 = .ok (.aload_n 0, 1) := by decide +kernel
theorem dX11_why_16 : decode cX11_why 16 = .ok (.getfield 62, 3) := by decide +kernel
theorem dX11_why_19 : decode cX11_why 19 = .ok (.getfield 163, 3) := by decide +kernel
theorem dX11_why_22 : decode cX11_why 22 = .ok (.invokevirtual 176, 3) := by decide +kernel
theorem dX11_why_25 : decode cX11_why 25 = .ok (.pop, 1) := by decide +kernel
theorem dX11_why_26 : decode cX11_why 26 = .ok (.aload_n 0, 1) := by decide +kernel
theorem dX11_why_27 : decode cX11_why 27 = .ok (.getfield 32, 3) := by decide +kernel
theorem dX11_why_30 : decode cX11_why 30 = .ok (.getfield 180, 3) := by decide +kernel
theorem dX11_why_33 : decode cX11_why 33 = .ok (.ireturn, 1) := by decide +kernel
set_option maxRecDepth 20000 in
theorem ggX11_bursts_X10_hasPot : GoodIn wsX11_bursts wsX10_hasPot := goodIn_r _ [7, 8, 46, 47, 48, 49, 50, 51, 52, 53, 54, 55, 56, 57] (by decide +kernel) (by decide +kernel)
set_option maxRecDepth 20000 in
theorem gX11_bursts_X10_hasPot : GoodIn wsX11_bursts (wsV RX11 102 RX10 yX10_hasPot wsX10_hasPot) := goodIn_app (goodIn_of _ (by decide +kernel)) ggX11_bursts_X10_hasPot
set_option maxRecDepth 20000 in
theorem ggX11_bursts_X10_holdsOf : GoodIn wsX11_bursts wsX10_holdsOf := goodIn_r _ [12, 13, 46, 47, 48, 49, 50, 51, 52, 53, 54, 55, 56, 57] (by decide +kernel) (by decide +kernel)
set_option maxRecDepth 20000 in
theorem gX11_bursts_X10_holdsOf : GoodIn wsX11_bursts (wsV RX11 183 RX10 yX10_holdsOf wsX10_holdsOf) := goodIn_app (goodIn_of _ (by decide +kernel)) ggX11_bursts_X10_holdsOf
set_option maxRecDepth 20000 in
theorem ggX11_bursts_X1_firstAbove : GoodIn wsX11_bursts wsX1_firstAbove := goodIn_r _ [18, 19, 20, 21, 22, 17, 23, 24, 25, 26, 27, 28, 29, 30, 31, 32, 33, 34, 58, 59, 60, 61, 62] (by decide +kernel) (by decide +kernel)
set_option maxRecDepth 20000 in
theorem gX11_bursts_X1_firstAbove : GoodIn wsX11_bursts (wsV RX11 186 RX1 yX1_firstAbove wsX1_firstAbove) := goodIn_app (goodIn_of _ (by decide +kernel)) ggX11_bursts_X1_firstAbove
theorem dX11_bursts_0 : decode cX11_bursts 0 = .ok (.aload_n 0, 1) := by decide +kernel
theorem dX11_bursts_1 : decode cX11_bursts 1 = .ok (.getfield 62, 3) := by decide +kernel
theorem dX11_bursts_4 : decode cX11_bursts 4 = .ok (.iload_n 1, 1) := by decide +kernel
theorem dX11_bursts_5 : decode cX11_bursts 5 = .ok (.invokevirtual 102, 3) := by decide +kernel
theorem dX11_bursts_8 : decode cX11_bursts 8 = .ok (.ifCond .eq 24, 3) := by decide +kernel
theorem dX11_bursts_11 : decode cX11_bursts 11 = .ok (.aload_n 0, 1) := by decide +kernel
theorem dX11_bursts_12 : decode cX11_bursts 12 = .ok (.getfield 62, 3) := by decide +kernel
theorem dX11_bursts_15 : decode cX11_bursts 15 = .ok (.getfield 163, 3) := by decide +kernel
theorem dX11_bursts_18 : decode cX11_bursts 18 = .ok (.aload_n 0, 1) := by decide +kernel
theorem dX11_bursts_19 : decode cX11_bursts 19 = .ok (.getfield 62, 3) := by decide +kernel
theorem dX11_bursts_22 : decode cX11_bursts 22 = .ok (.iload_n 1, 1) := by decide +kernel
theorem dX11_bursts_23 : decode cX11_bursts 23 = .ok (.invokevirtual 183, 3) := by decide +kernel
theorem dX11_bursts_26 : decode cX11_bursts 26 = .ok (.invokevirtual 186, 3) := by decide +kernel
theorem dX11_bursts_29 : decode cX11_bursts 29 = .ok (.goto 5, 3) := by decide +kernel
theorem dX11_bursts_32 : decode cX11_bursts 32 = .ok (.bipush (-2), 2) := by decide +kernel
theorem dX11_bursts_34 : decode cX11_bursts 34 = .ok (.ireturn, 1) := by decide +kernel
set_option maxRecDepth 20000 in
theorem ggX11_first_X11_firstWithout : GoodIn wsX11_first wsX11_firstWithout := goodIn_r _ [5, 6, 7, 8, 9, 10, 11, 12, 13, 4, 14, 15, 16, 17, 18, 19, 20, 21, 22, 23, 24, 25, 26, 27, 28, 29, 30, 31, 32, 33, 34, 35, 36, 37, 38, 39, 40, 41, 42, 43, 44, 45, 46, 47, 48, 49, 50, 51, 52, 53, 54, 55, 56, 57, 58, 59, 60, 61, 62, 63, 64, 65, 66, 67, 68, 69, 70, 71, 72, 73, 74, 75, 76, 77, 78, 79, 80, 81, 82, 83, 84, 85, 86, 87, 88, 89, 90, 91, 92, 93, 94, 95, 96, 97, 98, 99, 100, 101, 102, 103, 104, 105, 106, 107, 108, 109, 110, 111, 112, 113, 114, 115, 116, 117, 118, 119, 120, 121, 122, 123, 124, 125, 126, 127, 128, 129, 130, 131, 132, 133, 134, 135, 136, 137, 138, 139, 140, 141, 142, 143, 144, 145, 146, 147, 148, 149, 150, 151, 152, 153, 154, 155] (by decide +kernel) (by decide +kernel)
set_option maxRecDepth 20000 in
theorem gX11_first_X11_firstWithout : GoodIn wsX11_first (wsV RX11 189 RX11 yX11_firstWithout wsX11_firstWithout) := goodIn_app (goodIn_of _ (by decide +kernel)) ggX11_first_X11_firstWithout
theorem dX11_first_0 : decode cX11_first 0 = .ok (.aload_n 0, 1) := by decide +kernel
theorem dX11_first_1 : decode cX11_first 1 = .ok (.iconst (-1), 1) := by decide +kernel
theorem dX11_first_2 : decode cX11_first 2 = .ok (.iload_n 1, 1) := by decide +kernel
theorem dX11_first_3 : decode cX11_first 3 = .ok (.invokevirtual 189, 3) := by decide +kernel
theorem dX11_first_6 : decode cX11_first 6 = .ok (.ireturn, 1) := by decide +kernel
set_option maxRecDepth 20000 in
theorem ggX11_next_X10_pipeAt : GoodIn wsX11_next wsX10_pipeAt := goodIn_r _ [6, 7, 8, 120, 121, 122, 123, 124, 125, 126, 127, 128, 129, 130, 131] (by decide +kernel) (by decide +kernel)
set_option maxRecDepth 20000 in
theorem gX11_next_X10_pipeAt : GoodIn wsX11_next (wsV RX11 110 RX10 yX10_pipeAt wsX10_pipeAt) := goodIn_app (goodIn_of _ (by decide +kernel)) ggX11_next_X10_pipeAt
set_option maxRecDepth 20000 in
theorem ggX11_next_X10_hasPot : GoodIn wsX11_next wsX10_hasPot := goodIn_r _ [12, 13, 120, 121, 122, 123, 124, 125, 126, 127, 128, 129, 130, 131] (by decide +kernel) (by decide +kernel)
set_option maxRecDepth 20000 in
theorem gX11_next_X10_hasPot : GoodIn wsX11_next (wsV RX11 102 RX10 yX10_hasPot wsX10_hasPot) := goodIn_app (goodIn_of _ (by decide +kernel)) ggX11_next_X10_hasPot
set_option maxRecDepth 20000 in
theorem ggX11_next_X11_firstWithout : GoodIn wsX11_next wsX11_firstWithout := goodIn_r _ [18, 1, 19, 20, 21, 22, 23, 24, 25, 17, 26, 27, 28, 2, 3, 4, 5, 6, 7, 8, 29, 30, 31, 32, 33, 34, 35, 36, 37, 38, 39, 40, 41, 42, 43, 44, 45, 46, 47, 48, 49, 50, 51, 52, 53, 54, 55, 56, 57, 58, 59, 60, 61, 62, 63, 64, 65, 66, 67, 68, 69, 70, 71, 72, 73, 74, 75, 76, 77, 78, 79, 80, 81, 82, 83, 84, 85, 86, 87, 88, 89, 90, 91, 92, 93, 94, 95, 96, 97, 98, 99, 100, 101, 102, 103, 104, 105, 106, 107, 108, 109, 110, 111, 112, 113, 114, 115, 116, 117, 118, 119, 120, 121, 122, 123, 124, 125, 126, 127, 128, 129, 130, 131, 132, 133, 134, 135, 136, 137, 138, 139, 140, 141, 142, 143, 144, 145, 146, 147, 148, 149, 150, 151, 152, 153, 154, 155, 156, 157, 158, 159, 160] (by decide +kernel) (by decide +kernel)
set_option maxRecDepth 20000 in
theorem gX11_next_X11_firstWithout : GoodIn wsX11_next (wsV RX11 189 RX11 yX11_firstWithout wsX11_firstWithout) := goodIn_app (goodIn_of _ (by decide +kernel)) ggX11_next_X11_firstWithout
theorem dX11_next_0 : decode cX11_next 0 = .ok (.aload_n 0, 1) := by decide +kernel
theorem dX11_next_1 : decode cX11_next 1 = .ok (.getfield 62, 3) := by decide +kernel
theorem dX11_next_4 : decode cX11_next 4 = .ok (.iload_n 1, 1) := by decide +kernel
theorem dX11_next_5 : decode cX11_next 5 = .ok (.invokevirtual 110, 3) := by decide +kernel
theorem dX11_next_8 : decode cX11_next 8 = .ok (.ifnonnull 23, 3) := by decide +kernel
theorem dX11_next_11 : decode cX11_next 11 = .ok (.iload_n 1, 1) := by decide +kernel
theorem dX11_next_12 : decode cX11_next 12 = .ok (.bipush 100, 2) := by decide +kernel
theorem dX11_next_14 : decode cX11_next 14 = .ok (.if_icmp .lt 21, 3) := by decide +kernel
theorem dX11_next_17 : decode cX11_next 17 = .ok (.aload_n 0, 1) := by decide +kernel
theorem dX11_next_18 : decode cX11_next 18 = .ok (.getfield 62, 3) := by decide +kernel
theorem dX11_next_21 : decode cX11_next 21 = .ok (.iload_n 1, 1) := by decide +kernel
theorem dX11_next_22 : decode cX11_next 22 = .ok (.bipush 100, 2) := by decide +kernel
theorem dX11_next_24 : decode cX11_next 24 = .ok (.isub, 1) := by decide +kernel
theorem dX11_next_25 : decode cX11_next 25 = .ok (.invokevirtual 102, 3) := by decide +kernel
theorem dX11_next_28 : decode cX11_next 28 = .ok (.ifCond .eq 7, 3) := by decide +kernel
theorem dX11_next_31 : decode cX11_next 31 = .ok (.iconst 1, 1) := by decide +kernel
theorem dX11_next_32 : decode cX11_next 32 = .ok (.goto 4, 3) := by decide +kernel
theorem dX11_next_35 : decode cX11_next 35 = .ok (.iconst 0, 1) := by decide +kernel
theorem dX11_next_36 : decode cX11_next 36 = .ok (.istore_n 3, 1) := by decide +kernel
theorem dX11_next_37 : decode cX11_next 37 = .ok (.iload_n 3, 1) := by decide +kernel
theorem dX11_next_38 : decode cX11_next 38 = .ok (.ifCond .eq 12, 3) := by decide +kernel
theorem dX11_next_41 : decode cX11_next 41 = .ok (.aload_n 0, 1) := by decide +kernel
theorem dX11_next_42 : decode cX11_next 42 = .ok (.iload_n 1, 1) := by decide +kernel
theorem dX11_next_43 : decode cX11_next 43 = .ok (.iload_n 2, 1) := by decide +kernel
theorem dX11_next_44 : decode cX11_next 44 = .ok (.invokevirtual 189, 3) := by decide +kernel
theorem dX11_next_47 : decode cX11_next 47 = .ok (.goto 5, 3) := by decide +kernel
theorem dX11_next_50 : decode cX11_next 50 = .ok (.bipush (-2), 2) := by decide +kernel
theorem dX11_next_52 : decode cX11_next 52 = .ok (.ireturn, 1) := by decide +kernel
set_option maxRecDepth 20000 in
theorem ggX11_under_X11_isStrained : GoodIn wsX11_under wsX11_isStrained := goodIn_r _ [9, 2, 4, 10, 11, 12, 13, 14, 15, 16, 17, 18, 19, 20, 21, 22, 23, 24, 25, 26, 27, 28, 29, 30, 31, 32, 33, 34, 35, 36, 37, 38, 39, 40, 41, 42, 110, 111, 112, 113, 114, 115, 116, 117, 118, 119, 120, 133, 134, 135, 136, 137, 138, 139, 121, 122, 123, 124, 125, 126, 127, 128, 129, 130, 131, 132, 140, 141, 142, 143, 144, 145, 146, 147, 148, 149, 150, 151, 152, 153, 154, 155, 156] (by decide +kernel) (by decide +kernel)
set_option maxRecDepth 20000 in
theorem gX11_under_X11_isStrained : GoodIn wsX11_under (wsV RX11 145 RX11 yX11_isStrained wsX11_isStrained) := goodIn_app (goodIn_of _ (by decide +kernel)) ggX11_under_X11_isStrained
set_option maxRecDepth 20000 in
theorem ggX11_under_X1_takeShaped : GoodIn wsX11_under wsX1_takeShaped := goodIn_r _ [47, 48, 49, 50, 51, 46, 52, 53, 54, 55, 56, 57, 58, 59, 60, 61, 62, 63, 64, 65, 66, 67, 68, 41, 69, 70, 71, 72, 73, 74, 75, 76, 77, 78, 79, 80, 81, 157, 158, 159, 160, 161] (by decide +kernel) (by decide +kernel)
set_option maxRecDepth 20000 in
theorem gX11_under_X1_takeShaped : GoodIn wsX11_under (wsV RX11 192 RX1 yX1_takeShaped wsX1_takeShaped) := goodIn_app (goodIn_of _ (by decide +kernel)) ggX11_under_X1_takeShaped
set_option maxRecDepth 20000 in
theorem ggX11_under_X8_goingHour : GoodIn wsX11_under wsX8_goingHour := goodIn_r _ [85, 86, 87, 88, 89, 22, 90, 91, 92, 93, 94, 68, 41, 69, 32, 95, 60, 61, 46, 62, 63, 96, 97, 98, 99, 30, 100, 101, 102, 103, 104, 105, 106, 107, 25, 28, 108, 74, 75, 76, 77, 109, 55, 56, 57, 58, 157, 158, 159, 160, 161, 140, 141, 142, 143, 144, 145] (by decide +kernel) (by decide +kernel)
set_option maxRecDepth 20000 in
theorem gX11_under_X8_goingHour : GoodIn wsX11_under (wsV RX11 176 RX8 yX8_goingHour wsX8_goingHour) := goodIn_app (goodIn_of _ (by decide +kernel)) ggX11_under_X8_goingHour
theorem dX11_under_0 : decode cX11_under 0 = .ok (.iload_n 2, 1) := by decide +kernel
theorem dX11_under_1 : decode cX11_under 1 = .ok (.sipush (-999), 3) := by decide +kernel
theorem dX11_under_4 : decode cX11_under 4 = .ok (.if_icmp .lt 18, 3) := by decide +kernel
theorem dX11_under_7 : decode cX11_under 7 = .ok (.iload_n 2, 1) := by decide +kernel
theorem dX11_under_8 : decode cX11_under 8 = .ok (.sipush 999, 3) := by decide +kernel
theorem dX11_under_11 : decode cX11_under 11 = .ok (.if_icmp .gt 11, 3) := by decide +kernel
theorem dX11_under_14 : decode cX11_under 14 = .ok (.aload_n 0, 1) := by decide +kernel
theorem dX11_under_15 : decode cX11_under 15 = .ok (.iload_n 1, 1) := by decide +kernel
theorem dX11_under_16 : decode cX11_under 16 = .ok (.invokevirtual 145, 3) := by decide +kernel
theorem dX11_under_19 : decode cX11_under 19 = .ok (.ifCond .ne 6, 3) := by decide +kernel
theorem dX11_under_22 : decode cX11_under 22 = .ok (.bipush (-2), 2) := by decide +kernel
theorem dX11_under_24 : decode cX11_under 24 = .ok (.ireturn, 1) := by decide +kernel
theorem dX11_under_25 : decode cX11_under 25 = .ok (.aload_n 0, 1) := by decide +kernel
theorem dX11_under_26 : decode cX11_under 26 = .ok (.getfield 39, 3) := by decide +kernel
theorem dX11_under_29 : decode cX11_under 29 = .ok (.aload_n 0, 1) := by decide +kernel
theorem dX11_under_30 : decode cX11_under 30 = .ok (.getfield 62, 3) := by decide +kernel
theorem dX11_under_33 : decode cX11_under 33 = .ok (.getfield 163, 3) := by decide +kernel
theorem dX11_under_36 : decode cX11_under 36 = .ok (.iload_n 2, 1) := by decide +kernel
theorem dX11_under_37 : decode cX11_under 37 = .ok (.sipush 999, 3) := by decide +kernel
theorem dX11_under_40 : decode cX11_under 40 = .ok (.invokevirtual 192, 3) := by decide +kernel
theorem dX11_under_43 : decode cX11_under 43 = .ok (.aload_n 0, 1) := by decide +kernel
theorem dX11_under_44 : decode cX11_under 44 = .ok (.getfield 32, 3) := by decide +kernel
theorem dX11_under_47 : decode cX11_under 47 = .ok (.aload_n 0, 1) := by decide +kernel
theorem dX11_under_48 : decode cX11_under 48 = .ok (.getfield 39, 3) := by decide +kernel
theorem dX11_under_51 : decode cX11_under 51 = .ok (.invokevirtual 176, 3) := by decide +kernel
theorem dX11_under_54 : decode cX11_under 54 = .ok (.ireturn, 1) := by decide +kernel
set_option maxRecDepth 20000 in
theorem ggX11_stay_X11_isStrained : GoodIn wsX11_stay wsX11_isStrained := goodIn_r _ [9, 3, 1, 10, 11, 12, 13, 14, 15, 16, 17, 18, 19, 20, 21, 22, 23, 24, 25, 26, 27, 28, 29, 30, 31, 32, 33, 34, 35, 36, 37, 38, 39, 40, 41, 42, 86, 87, 88, 89, 90, 91, 92, 93, 94, 95, 96, 115, 116, 117, 118, 119, 120, 121, 103, 104, 105, 106, 107, 108, 109, 110, 111, 112, 113, 114, 97, 98, 99, 100, 101, 102, 122, 123, 124, 125, 126, 127, 128, 129, 130, 131, 132] (by decide +kernel) (by decide +kernel)
set_option maxRecDepth 20000 in
theorem gX11_stay_X11_isStrained : GoodIn wsX11_stay (wsV RX11 145 RX11 yX11_isStrained wsX11_isStrained) := goodIn_app (goodIn_of _ (by decide +kernel)) ggX11_stay_X11_isStrained
set_option maxRecDepth 20000 in
theorem ggX11_stay_X8_goingHour : GoodIn wsX11_stay wsX8_goingHour := goodIn_r _ [46, 47, 48, 49, 50, 22, 51, 52, 53, 54, 55, 56, 41, 57, 32, 58, 59, 60, 61, 62, 63, 64, 65, 66, 67, 30, 68, 69, 70, 71, 72, 73, 74, 75, 25, 28, 76, 77, 78, 79, 80, 81, 82, 83, 84, 85, 133, 134, 135, 136, 137, 97, 98, 99, 100, 101, 102] (by decide +kernel) (by decide +kernel)
set_option maxRecDepth 20000 in
theorem gX11_stay_X8_goingHour : GoodIn wsX11_stay (wsV RX11 176 RX8 yX8_goingHour wsX8_goingHour) := goodIn_app (goodIn_of _ (by decide +kernel)) ggX11_stay_X8_goingHour
theorem dX11_stay_0 : decode cX11_stay 0 = .ok (.aload_n 0, 1) := by decide +kernel
theorem dX11_stay_1 : decode cX11_stay 1 = .ok (.iload_n 1, 1) := by decide +kernel
theorem dX11_stay_2 : decode cX11_stay 2 = .ok (.invokevirtual 145, 3) := by decide +kernel
theorem dX11_stay_5 : decode cX11_stay 5 = .ok (.ifCond .ne 6, 3) := by decide +kernel
theorem dX11_stay_8 : decode cX11_stay 8 = .ok (.bipush (-2), 2) := by decide +kernel
theorem dX11_stay_10 : decode cX11_stay 10 = .ok (.ireturn, 1) := by decide +kernel
theorem dX11_stay_11 : decode cX11_stay 11 = .ok (.aload_n 0, 1) := by decide +kernel
theorem dX11_stay_12 : decode cX11_stay 12 = .ok (.getfield 32, 3) := by decide +kernel
theorem dX11_stay_15 : decode cX11_stay 15 = .ok (.getfield 196, 3) := by decide +kernel
theorem dX11_stay_18 : decode cX11_stay 18 = .ok (.lstore_n 2, 1) := by decide +kernel
theorem dX11_stay_19 : decode cX11_stay 19 = .ok (.iconst 0, 1) := by decide +kernel
theorem dX11_stay_20 : decode cX11_stay 20 = .ok (.istore 4, 2) := by decide +kernel
theorem dX11_stay_22 : decode cX11_stay 22 = .ok (.sipush 30001, 3) := by decide +kernel
theorem dX11_stay_25 : decode cX11_stay 25 = .ok (.istore 5, 2) := by decide +kernel
theorem dX11_stay_27 : decode cX11_stay 27 = .ok (.iconst 0, 1) := by decide +kernel
theorem dX11_stay_28 : decode cX11_stay 28 = .ok (.istore 6, 2) := by decide +kernel
theorem dX11_stay_30 : decode cX11_stay 30 = .ok (.iload 6, 2) := by decide +kernel
theorem dX11_stay_32 : decode cX11_stay 32 = .ok (.bipush 40, 2) := by decide +kernel
theorem dX11_stay_34 : decode cX11_stay 34 = .ok (.if_icmp .ge 76, 3) := by decide +kernel
theorem dX11_stay_37 : decode cX11_stay 37 = .ok (.iload 4, 2) := by decide +kernel
theorem dX11_stay_39 : decode cX11_stay 39 = .ok (.iload 5, 2) := by decide +kernel
theorem dX11_stay_41 : decode cX11_stay 41 = .ok (.if_icmp .ge 69, 3) := by decide +kernel
theorem dX11_stay_44 : decode cX11_stay 44 = .ok (.iload 4, 2) := by decide +kernel
theorem dX11_stay_46 : decode cX11_stay 46 = .ok (.iload 5, 2) := by decide +kernel
theorem dX11_stay_48 : decode cX11_stay 48 = .ok (.iadd, 1) := by decide +kernel
theorem dX11_stay_49 : decode cX11_stay 49 = .ok (.iconst 2, 1) := by decide +kernel
theorem dX11_stay_50 : decode cX11_stay 50 = .ok (.idiv, 1) := by decide +kernel
theorem dX11_stay_51 : decode cX11_stay 51 = .ok (.istore 7, 2) := by decide +kernel
theorem dX11_stay_53 : decode cX11_stay 53 = .ok (.aload_n 0, 1) := by decide +kernel
theorem dX11_stay_54 : decode cX11_stay 54 = .ok (.getfield 32, 3) := by decide +kernel
theorem dX11_stay_57 : decode cX11_stay 57 = .ok (.lload_n 2, 1) := by decide +kernel
theorem dX11_stay_58 : decode cX11_stay 58 = .ok (.iload 7, 2) := by decide +kernel
theorem dX11_stay_60 : decode cX11_stay 60 = .ok (.i2l, 1) := by decide +kernel
theorem dX11_stay_61 : decode cX11_stay 61 = .ok (.ladd, 1) := by decide +kernel
theorem dX11_stay_62 : decode cX11_stay 62 = .ok (.putfield 196, 3) := by decide +kernel
theorem dX11_stay_65 : decode cX11_stay 65 = .ok (.iload 7, 2) := by decide +kernel
theorem dX11_stay_67 : decode cX11_stay 67 = .ok (.sipush 30000, 3) := by decide +kernel
theorem dX11_stay_70 : decode cX11_stay 70 = .ok (.if_icmp .gt 21, 3) := by decide +kernel
theorem dX11_stay_73 : decode cX11_stay 73 = .ok (.aload_n 0, 1) := by decide +kernel
theorem dX11_stay_74 : decode cX11_stay 74 = .ok (.getfield 32, 3) := by decide +kernel
theorem dX11_stay_77 : decode cX11_stay 77 = .ok (.aload_n 0, 1) := by decide +kernel
theorem dX11_stay_78 : decode cX11_stay 78 = .ok (.getfield 62, 3) := by decide +kernel
theorem dX11_stay_81 : decode cX11_stay 81 = .ok (.getfield 163, 3) := by decide +kernel
theorem dX11_stay_84 : decode cX11_stay 84 = .ok (.invokevirtual 176, 3) := by decide +kernel
theorem dX11_stay_87 : decode cX11_stay 87 = .ok (.iconst (-1), 1) := by decide +kernel
theorem dX11_stay_88 : decode cX11_stay 88 = .ok (.if_icmp .ne 10, 3) := by decide +kernel
theorem dX11_stay_91 : decode cX11_stay 91 = .ok (.iload 7, 2) := by decide +kernel
theorem dX11_stay_93 : decode cX11_stay 93 = .ok (.istore 5, 2) := by decide +kernel
theorem dX11_stay_95 : decode cX11_stay 95 = .ok (.goto 9, 3) := by decide +kernel
theorem dX11_stay_98 : decode cX11_stay 98 = .ok (.iload 7, 2) := by decide +kernel
theorem dX11_stay_100 : decode cX11_stay 100 = .ok (.iconst 1, 1) := by decide +kernel
theorem dX11_stay_101 : decode cX11_stay 101 = .ok (.iadd, 1) := by decide +kernel
theorem dX11_stay_102 : decode cX11_stay 102 = .ok (.istore 4, 2) := by decide +kernel
theorem dX11_stay_104 : decode cX11_stay 104 = .ok (.iinc 6 1, 3) := by decide +kernel
theorem dX11_stay_107 : decode cX11_stay 107 = .ok (.goto (-77), 3) := by decide +kernel
theorem dX11_stay_110 : decode cX11_stay 110 = .ok (.iload 4, 2) := by decide +kernel
theorem dX11_stay_112 : decode cX11_stay 112 = .ok (.sipush 30000, 3) := by decide +kernel
theorem dX11_stay_115 : decode cX11_stay 115 = .ok (.if_icmp .le 7, 3) := by decide +kernel
theorem dX11_stay_118 : decode cX11_stay 118 = .ok (.iconst (-1), 1) := by decide +kernel
theorem dX11_stay_119 : decode cX11_stay 119 = .ok (.goto 5, 3) := by decide +kernel
theorem dX11_stay_122 : decode cX11_stay 122 = .ok (.iload 4, 2) := by decide +kernel
theorem dX11_stay_124 : decode cX11_stay 124 = .ok (.ireturn, 1) := by decide +kernel
set_option maxRecDepth 20000 in
theorem ggX11_cap_X11_isStrained : GoodIn wsX11_cap wsX11_isStrained := goodIn_r _ [9, 2, 4, 10, 11, 12, 13, 14, 15, 16, 17, 18, 19, 20, 21, 22, 23, 24, 25, 26, 27, 28, 29, 30, 31, 32, 33, 34, 35, 36, 37, 38, 39, 40, 41, 42, 110, 111, 112, 113, 114, 115, 116, 117, 118, 119, 120, 133, 134, 135, 136, 137, 138, 139, 121, 122, 123, 124, 125, 126, 127, 128, 129, 130, 131, 132, 140, 141, 142, 143, 144, 145, 146, 147, 148, 149, 150, 151, 152, 153, 154, 155, 156] (by decide +kernel) (by decide +kernel)
set_option maxRecDepth 20000 in
theorem gX11_cap_X11_isStrained : GoodIn wsX11_cap (wsV RX11 145 RX11 yX11_isStrained wsX11_isStrained) := goodIn_app (goodIn_of _ (by decide +kernel)) ggX11_cap_X11_isStrained
set_option maxRecDepth 20000 in
theorem ggX11_cap_X1_takeShaped : GoodIn wsX11_cap wsX1_takeShaped := goodIn_r _ [47, 48, 49, 50, 51, 46, 52, 53, 54, 55, 56, 57, 58, 59, 60, 61, 62, 63, 64, 65, 66, 67, 68, 41, 69, 70, 71, 72, 73, 74, 75, 76, 77, 78, 79, 80, 81, 157, 158, 159, 160, 161] (by decide +kernel) (by decide +kernel)
set_option maxRecDepth 20000 in
theorem gX11_cap_X1_takeShaped : GoodIn wsX11_cap (wsV RX11 192 RX1 yX1_takeShaped wsX1_takeShaped) := goodIn_app (goodIn_of _ (by decide +kernel)) ggX11_cap_X1_takeShaped
set_option maxRecDepth 20000 in
theorem ggX11_cap_X8_goingHour : GoodIn wsX11_cap wsX8_goingHour := goodIn_r _ [85, 86, 87, 88, 89, 22, 90, 91, 92, 93, 94, 68, 41, 69, 32, 95, 60, 61, 46, 62, 63, 96, 97, 98, 99, 30, 100, 101, 102, 103, 104, 105, 106, 107, 25, 28, 108, 74, 75, 76, 77, 109, 55, 56, 57, 58, 157, 158, 159, 160, 161, 140, 141, 142, 143, 144, 145] (by decide +kernel) (by decide +kernel)
set_option maxRecDepth 20000 in
theorem gX11_cap_X8_goingHour : GoodIn wsX11_cap (wsV RX11 176 RX8 yX8_goingHour wsX8_goingHour) := goodIn_app (goodIn_of _ (by decide +kernel)) ggX11_cap_X8_goingHour
theorem dX11_cap_0 : decode cX11_cap 0 = .ok (.aload_n 0, 1) := by decide +kernel
theorem dX11_cap_1 : decode cX11_cap 1 = .ok (.iload_n 1, 1) := by decide +kernel
theorem dX11_cap_2 : decode cX11_cap 2 = .ok (.invokevirtual 145, 3) := by decide +kernel
theorem dX11_cap_5 : decode cX11_cap 5 = .ok (.ifCond .ne 6, 3) := by decide +kernel
theorem dX11_cap_8 : decode cX11_cap 8 = .ok (.bipush (-2), 2) := by decide +kernel
theorem dX11_cap_10 : decode cX11_cap 10 = .ok (.ireturn, 1) := by decide +kernel
theorem dX11_cap_11 : decode cX11_cap 11 = .ok (.iconst (-1), 1) := by decide +kernel
theorem dX11_cap_12 : decode cX11_cap 12 = .ok (.istore_n 2, 1) := by decide +kernel
theorem dX11_cap_13 : decode cX11_cap 13 = .ok (.sipush 999, 3) := by decide +kernel
theorem dX11_cap_16 : decode cX11_cap 16 = .ok (.istore_n 3, 1) := by decide +kernel
theorem dX11_cap_17 : decode cX11_cap 17 = .ok (.iconst 0, 1) := by decide +kernel
theorem dX11_cap_18 : decode cX11_cap 18 = .ok (.istore 4, 2) := by decide +kernel
theorem dX11_cap_20 : decode cX11_cap 20 = .ok (.iload 4, 2) := by decide +kernel
theorem dX11_cap_22 : decode cX11_cap 22 = .ok (.bipush 40, 2) := by decide +kernel
theorem dX11_cap_24 : decode cX11_cap 24 = .ok (.if_icmp .ge 66, 3) := by decide +kernel
theorem dX11_cap_27 : decode cX11_cap 27 = .ok (.iload_n 2, 1) := by decide +kernel
theorem dX11_cap_28 : decode cX11_cap 28 = .ok (.iload_n 3, 1) := by decide +kernel
theorem dX11_cap_29 : decode cX11_cap 29 = .ok (.if_icmp .ge 61, 3) := by decide +kernel
theorem dX11_cap_32 : decode cX11_cap 32 = .ok (.iload_n 3, 1) := by decide +kernel
theorem dX11_cap_33 : decode cX11_cap 33 = .ok (.iload_n 3, 1) := by decide +kernel
theorem dX11_cap_34 : decode cX11_cap 34 = .ok (.iload_n 2, 1) := by decide +kernel
