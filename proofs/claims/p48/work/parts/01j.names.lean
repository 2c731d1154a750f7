theorem dX12_readMoves_20 : decode cX12_readMoves 20 = .ok (.invokevirtual 182, 3) := by decide +kernel
theorem dX12_readMoves_23 : decode cX12_readMoves 23 = .ok (.istore_n 3, 1) := by decide +kernel
theorem dX12_readMoves_24 : decode cX12_readMoves 24 = .ok (.aload_n 0, 1) := by decide +kernel
theorem dX12_readMoves_25 : decode cX12_readMoves 25 = .ok (.iconst 1, 1) := by decide +kernel
theorem dX12_readMoves_26 : decode cX12_readMoves 26 = .ok (.sipush 900, 3) := by decide +kernel
theorem dX12_readMoves_29 : decode cX12_readMoves 29 = .ok (.invokevirtual 154, 3) := by decide +kernel
theorem dX12_readMoves_32 : decode cX12_readMoves 32 = .ok (.istore 4, 2) := by decide +kernel
theorem dX12_readMoves_34 : decode cX12_readMoves 34 = .ok (.aload_n 0, 1) := by decide +kernel
theorem dX12_readMoves_35 : decode cX12_readMoves 35 = .ok (.invokevirtual 122, 3) := by decide +kernel
theorem dX12_readMoves_38 : decode cX12_readMoves 38 = .ok (.ifCond .ne 4, 3) := by decide +kernel
theorem dX12_readMoves_41 : decode cX12_readMoves 41 = .ok (.return_, 1) := by decide +kernel
theorem dX12_readMoves_42 : decode cX12_readMoves 42 = .ok (.aload_n 0, 1) := by decide +kernel
theorem dX12_readMoves_43 : decode cX12_readMoves 43 = .ok (.getfield 34, 3) := by decide +kernel
theorem dX12_readMoves_46 : decode cX12_readMoves 46 = .ok (.iload_n 1, 1) := by decide +kernel
theorem dX12_readMoves_47 : decode cX12_readMoves 47 = .ok (.bipush 8, 2) := by decide +kernel
theorem dX12_readMoves_49 : decode cX12_readMoves 49 = .ok (.iadd, 1) := by decide +kernel
theorem dX12_readMoves_50 : decode cX12_readMoves 50 = .ok (.iconst 2, 1) := by decide +kernel
theorem dX12_readMoves_51 : decode cX12_readMoves 51 = .ok (.iload_n 2, 1) := by decide +kernel
theorem dX12_readMoves_52 : decode cX12_readMoves 52 = .ok (.imul, 1) := by decide +kernel
theorem dX12_readMoves_53 : decode cX12_readMoves 53 = .ok (.iadd, 1) := by decide +kernel
theorem dX12_readMoves_54 : decode cX12_readMoves 54 = .ok (.iload_n 3, 1) := by decide +kernel
theorem dX12_readMoves_55 : decode cX12_readMoves 55 = .ok (.iastore, 1) := by decide +kernel
theorem dX12_readMoves_56 : decode cX12_readMoves 56 = .ok (.aload_n 0, 1) := by decide +kernel
theorem dX12_readMoves_57 : decode cX12_readMoves 57 = .ok (.getfield 34, 3) := by decide +kernel
theorem dX12_readMoves_60 : decode cX12_readMoves 60 = .ok (.iload_n 1, 1) := by decide +kernel
theorem dX12_readMoves_61 : decode cX12_readMoves 61 = .ok (.bipush 8, 2) := by decide +kernel
theorem dX12_readMoves_63 : decode cX12_readMoves 63 = .ok (.iadd, 1) := by decide +kernel
theorem dX12_readMoves_64 : decode cX12_readMoves 64 = .ok (.iconst 2, 1) := by decide +kernel
theorem dX12_readMoves_65 : decode cX12_readMoves 65 = .ok (.iload_n 2, 1) := by decide +kernel
theorem dX12_readMoves_66 : decode cX12_readMoves 66 = .ok (.imul, 1) := by decide +kernel
theorem dX12_readMoves_67 : decode cX12_readMoves 67 = .ok (.iadd, 1) := by decide +kernel
theorem dX12_readMoves_68 : decode cX12_readMoves 68 = .ok (.iconst 1, 1) := by decide +kernel
theorem dX12_readMoves_69 : decode cX12_readMoves 69 = .ok (.iadd, 1) := by decide +kernel
theorem dX12_readMoves_70 : decode cX12_readMoves 70 = .ok (.iload 4, 2) := by decide +kernel
theorem dX12_readMoves_72 : decode cX12_readMoves 72 = .ok (.iastore, 1) := by decide +kernel
theorem dX12_readMoves_73 : decode cX12_readMoves 73 = .ok (.iinc 2 1, 3) := by decide +kernel
theorem dX12_readMoves_76 : decode cX12_readMoves 76 = .ok (.aload_n 0, 1) := by decide +kernel
theorem dX12_readMoves_77 : decode cX12_readMoves 77 = .ok (.invokevirtual 193, 3) := by decide +kernel
theorem dX12_readMoves_80 : decode cX12_readMoves 80 = .ok (.iconst (-1), 1) := by decide +kernel
theorem dX12_readMoves_81 : decode cX12_readMoves 81 = .ok (.if_icmp .ne (-79), 3) := by decide +kernel
theorem dX12_readMoves_84 : decode cX12_readMoves 84 = .ok (.aload_n 0, 1) := by decide +kernel
theorem dX12_readMoves_85 : decode cX12_readMoves 85 = .ok (.getfield 34, 3) := by decide +kernel
theorem dX12_readMoves_88 : decode cX12_readMoves 88 = .ok (.iload_n 1, 1) := by decide +kernel
theorem dX12_readMoves_89 : decode cX12_readMoves 89 = .ok (.iconst 3, 1) := by decide +kernel
theorem dX12_readMoves_90 : decode cX12_readMoves 90 = .ok (.iadd, 1) := by decide +kernel
theorem dX12_readMoves_91 : decode cX12_readMoves 91 = .ok (.iload_n 2, 1) := by decide +kernel
theorem dX12_readMoves_92 : decode cX12_readMoves 92 = .ok (.iastore, 1) := by decide +kernel
theorem dX12_readMoves_93 : decode cX12_readMoves 93 = .ok (.return_, 1) := by decide +kernel
theorem dX12_comesThere_0 : decode cX12_comesThere 0 = .ok (.iconst 0, 1) := by decide +kernel
theorem dX12_comesThere_1 : decode cX12_comesThere 1 = .ok (.istore_n 2, 1) := by decide +kernel
theorem dX12_comesThere_2 : decode cX12_comesThere 2 = .ok (.iconst 0, 1) := by decide +kernel
theorem dX12_comesThere_3 : decode cX12_comesThere 3 = .ok (.istore_n 3, 1) := by decide +kernel
theorem dX12_comesThere_4 : decode cX12_comesThere 4 = .ok (.iconst 0, 1) := by decide +kernel
theorem dX12_comesThere_5 : decode cX12_comesThere 5 = .ok (.istore 4, 2) := by decide +kernel
theorem dX12_comesThere_7 : decode cX12_comesThere 7 = .ok (.iload 4, 2) := by decide +kernel
theorem dX12_comesThere_9 : decode cX12_comesThere 9 = .ok (.aload_n 0, 1) := by decide +kernel
theorem dX12_comesThere_10 : decode cX12_comesThere 10 = .ok (.getfield 34, 3) := by decide +kernel
theorem dX12_comesThere_13 : decode cX12_comesThere 13 = .ok (.iload_n 1, 1) := by decide +kernel
theorem dX12_comesThere_14 : decode cX12_comesThere 14 = .ok (.iconst 3, 1) := by decide +kernel
theorem dX12_comesThere_15 : decode cX12_comesThere 15 = .ok (.iadd, 1) := by decide +kernel
theorem dX12_comesThere_16 : decode cX12_comesThere 16 = .ok (.iaload, 1) := by decide +kernel
theorem dX12_comesThere_17 : decode cX12_comesThere 17 = .ok (.if_icmp .ge 84, 3) := by decide +kernel
theorem dX12_comesThere_20 : decode cX12_comesThere 20 = .ok (.aload_n 0, 1) := by decide +kernel
theorem dX12_comesThere_21 : decode cX12_comesThere 21 = .ok (.getfield 34, 3) := by decide +kernel
theorem dX12_comesThere_24 : decode cX12_comesThere 24 = .ok (.iload_n 1, 1) := by decide +kernel
theorem dX12_comesThere_25 : decode cX12_comesThere 25 = .ok (.bipush 8, 2) := by decide +kernel
theorem dX12_comesThere_27 : decode cX12_comesThere 27 = .ok (.iadd, 1) := by decide +kernel
theorem dX12_comesThere_28 : decode cX12_comesThere 28 = .ok (.iconst 2, 1) := by decide +kernel
theorem dX12_comesThere_29 : decode cX12_comesThere 29 = .ok (.iload 4, 2) := by decide +kernel
theorem dX12_comesThere_31 : decode cX12_comesThere 31 = .ok (.imul, 1) := by decide +kernel
theorem dX12_comesThere_32 : decode cX12_comesThere 32 = .ok (.iadd, 1) := by decide +kernel
theorem dX12_comesThere_33 : decode cX12_comesThere 33 = .ok (.iconst 1, 1) := by decide +kernel
theorem dX12_comesThere_34 : decode cX12_comesThere 34 = .ok (.iadd, 1) := by decide +kernel
theorem dX12_comesThere_35 : decode cX12_comesThere 35 = .ok (.iaload, 1) := by decide +kernel
theorem dX12_comesThere_36 : decode cX12_comesThere 36 = .ok (.istore 5, 2) := by decide +kernel
theorem dX12_comesThere_38 : decode cX12_comesThere 38 = .ok (.aload_n 0, 1) := by decide +kernel
theorem dX12_comesThere_39 : decode cX12_comesThere 39 = .ok (.getfield 34, 3) := by decide +kernel
theorem dX12_comesThere_42 : decode cX12_comesThere 42 = .ok (.iload_n 1, 1) := by decide +kernel
theorem dX12_comesThere_43 : decode cX12_comesThere 43 = .ok (.bipush 8, 2) := by decide +kernel
theorem dX12_comesThere_45 : decode cX12_comesThere 45 = .ok (.iadd, 1) := by decide +kernel
theorem dX12_comesThere_46 : decode cX12_comesThere 46 = .ok (.iconst 2, 1) := by decide +kernel
theorem dX12_comesThere_47 : decode cX12_comesThere 47 = .ok (.iload 4, 2) := by decide +kernel
theorem dX12_comesThere_49 : decode cX12_comesThere 49 = .ok (.imul, 1) := by decide +kernel
theorem dX12_comesThere_50 : decode cX12_comesThere 50 = .ok (.iadd, 1) := by decide +kernel
theorem dX12_comesThere_51 : decode cX12_comesThere 51 = .ok (.iaload, 1) := by decide +kernel
theorem dX12_comesThere_52 : decode cX12_comesThere 52 = .ok (.istore 6, 2) := by decide +kernel
theorem dX12_comesThere_54 : decode cX12_comesThere 54 = .ok (.iload_n 2, 1) := by decide +kernel
theorem dX12_comesThere_55 : decode cX12_comesThere 55 = .ok (.iload 6, 2) := by decide +kernel
theorem dX12_comesThere_57 : decode cX12_comesThere 57 = .ok (.ifCond .ne 8, 3) := by decide +kernel
theorem dX12_comesThere_60 : decode cX12_comesThere 60 = .ok (.iload 5, 2) := by decide +kernel
theorem dX12_comesThere_62 : decode cX12_comesThere 62 = .ok (.goto 4, 3) := by decide +kernel
theorem dX12_comesThere_65 : decode cX12_comesThere 65 = .ok (.iconst 0, 1) := by decide +kernel
theorem dX12_comesThere_66 : decode cX12_comesThere 66 = .ok (.iadd, 1) := by decide +kernel
theorem dX12_comesThere_67 : decode cX12_comesThere 67 = .ok (.istore_n 2, 1) := by decide +kernel
theorem dX12_comesThere_68 : decode cX12_comesThere 68 = .ok (.iload_n 3, 1) := by decide +kernel
theorem dX12_comesThere_69 : decode cX12_comesThere 69 = .ok (.iload 6, 2) := by decide +kernel
theorem dX12_comesThere_71 : decode cX12_comesThere 71 = .ok (.iconst 1, 1) := by decide +kernel
theorem dX12_comesThere_72 : decode cX12_comesThere 72 = .ok (.if_icmp .ne 8, 3) := by decide +kernel
theorem dX12_comesThere_75 : decode cX12_comesThere 75 = .ok (.iload 5, 2) := by decide +kernel
theorem dX12_comesThere_77 : decode cX12_comesThere 77 = .ok (.goto 16, 3) := by decide +kernel
theorem dX12_comesThere_80 : decode cX12_comesThere 80 = .ok (.iload 6, 2) := by decide +kernel
theorem dX12_comesThere_82 : decode cX12_comesThere 82 = .ok (.iconst 2, 1) := by decide +kernel
theorem dX12_comesThere_83 : decode cX12_comesThere 83 = .ok (.if_icmp .ne 9, 3) := by decide +kernel
theorem dX12_comesThere_86 : decode cX12_comesThere 86 = .ok (.iload 5, 2) := by decide +kernel
theorem dX12_comesThere_88 : decode cX12_comesThere 88 = .ok (.ineg, 1) := by decide +kernel
theorem dX12_comesThere_89 : decode cX12_comesThere 89 = .ok (.goto 4, 3) := by decide +kernel
theorem dX12_comesThere_92 : decode cX12_comesThere 92 = .ok (.iconst 0, 1) := by decide +kernel
theorem dX12_comesThere_93 : decode cX12_comesThere 93 = .ok (.iadd, 1) := by decide +kernel
theorem dX12_comesThere_94 : decode cX12_comesThere 94 = .ok (.istore_n 3, 1) := by decide +kernel
theorem dX12_comesThere_95 : decode cX12_comesThere 95 = .ok (.iinc 4 1, 3) := by decide +kernel
theorem dX12_comesThere_98 : decode cX12_comesThere 98 = .ok (.goto (-91), 3) := by decide +kernel
theorem dX12_comesThere_101 : decode cX12_comesThere 101 = .ok (.iload_n 2, 1) := by decide +kernel
theorem dX12_comesThere_102 : decode cX12_comesThere 102 = .ok (.bipush 100, 2) := by decide +kernel
theorem dX12_comesThere_104 : decode cX12_comesThere 104 = .ok (.aload_n 0, 1) := by decide +kernel
theorem dX12_comesThere_105 : decode cX12_comesThere 105 = .ok (.getfield 34, 3) := by decide +kernel
theorem dX12_comesThere_108 : decode cX12_comesThere 108 = .ok (.iload_n 1, 1) := by decide +kernel
theorem dX12_comesThere_109 : decode cX12_comesThere 109 = .ok (.iconst 1, 1) := by decide +kernel
theorem dX12_comesThere_110 : decode cX12_comesThere 110 = .ok (.iadd, 1) := by decide +kernel
theorem dX12_comesThere_111 : decode cX12_comesThere 111 = .ok (.iaload, 1) := by decide +kernel
theorem dX12_comesThere_112 : decode cX12_comesThere 112 = .ok (.aload_n 0, 1) := by decide +kernel
theorem dX12_comesThere_113 : decode cX12_comesThere 113 = .ok (.getfield 34, 3) := by decide +kernel
theorem dX12_comesThere_116 : decode cX12_comesThere 116 = .ok (.iload_n 1, 1) := by decide +kernel
theorem dX12_comesThere_117 : decode cX12_comesThere 117 = .ok (.iconst 0, 1) := by decide +kernel
theorem dX12_comesThere_118 : decode cX12_comesThere 118 = .ok (.iadd, 1) := by decide +kernel
theorem dX12_comesThere_119 : decode cX12_comesThere 119 = .ok (.iaload, 1) := by decide +kernel
theorem dX12_comesThere_120 : decode cX12_comesThere 120 = .ok (.isub, 1) := by decide +kernel
theorem dX12_comesThere_121 : decode cX12_comesThere 121 = .ok (.imul, 1) := by decide +kernel
theorem dX12_comesThere_122 : decode cX12_comesThere 122 = .ok (.if_icmp .ne 48, 3) := by decide +kernel
theorem dX12_comesThere_125 : decode cX12_comesThere 125 = .ok (.iload_n 3, 1) := by decide +kernel
theorem dX12_comesThere_126 : decode cX12_comesThere 126 = .ok (.aload_n 0, 1) := by decide +kernel
theorem dX12_comesThere_127 : decode cX12_comesThere 127 = .ok (.getfield 34, 3) := by decide +kernel
theorem dX12_comesThere_130 : decode cX12_comesThere 130 = .ok (.bipush 10, 2) := by decide +kernel
theorem dX12_comesThere_132 : decode cX12_comesThere 132 = .ok (.iconst 2, 1) := by decide +kernel
theorem dX12_comesThere_133 : decode cX12_comesThere 133 = .ok (.aload_n 0, 1) := by decide +kernel
theorem dX12_comesThere_134 : decode cX12_comesThere 134 = .ok (.getfield 34, 3) := by decide +kernel
theorem dX12_comesThere_137 : decode cX12_comesThere 137 = .ok (.iload_n 1, 1) := by decide +kernel
theorem dX12_comesThere_138 : decode cX12_comesThere 138 = .ok (.iconst 1, 1) := by decide +kernel
theorem dX12_comesThere_139 : decode cX12_comesThere 139 = .ok (.iadd, 1) := by decide +kernel
theorem dX12_comesThere_140 : decode cX12_comesThere 140 = .ok (.iaload, 1) := by decide +kernel
theorem dX12_comesThere_141 : decode cX12_comesThere 141 = .ok (.imul, 1) := by decide +kernel
theorem dX12_comesThere_142 : decode cX12_comesThere 142 = .ok (.iadd, 1) := by decide +kernel
theorem dX12_comesThere_143 : decode cX12_comesThere 143 = .ok (.iaload, 1) := by decide +kernel
theorem dX12_comesThere_144 : decode cX12_comesThere 144 = .ok (.aload_n 0, 1) := by decide +kernel
theorem dX12_comesThere_145 : decode cX12_comesThere 145 = .ok (.getfield 34, 3) := by decide +kernel
theorem dX12_comesThere_148 : decode cX12_comesThere 148 = .ok (.bipush 10, 2) := by decide +kernel
theorem dX12_comesThere_150 : decode cX12_comesThere 150 = .ok (.iconst 2, 1) := by decide +kernel
theorem dX12_comesThere_151 : decode cX12_comesThere 151 = .ok (.aload_n 0, 1) := by decide +kernel
theorem dX12_comesThere_152 : decode cX12_comesThere 152 = .ok (.getfield 34, 3) := by decide +kernel
theorem dX12_comesThere_155 : decode cX12_comesThere 155 = .ok (.iload_n 1, 1) := by decide +kernel
theorem dX12_comesThere_156 : decode cX12_comesThere 156 = .ok (.iconst 0, 1) := by decide +kernel
theorem dX12_comesThere_157 : decode cX12_comesThere 157 = .ok (.iadd, 1) := by decide +kernel
theorem dX12_comesThere_158 : decode cX12_comesThere 158 = .ok (.iaload, 1) := by decide +kernel
theorem dX12_comesThere_159 : decode cX12_comesThere 159 = .ok (.imul, 1) := by decide +kernel
theorem dX12_comesThere_160 : decode cX12_comesThere 160 = .ok (.iadd, 1) := by decide +kernel
theorem dX12_comesThere_161 : decode cX12_comesThere 161 = .ok (.iaload, 1) := by decide +kernel
theorem dX12_comesThere_162 : decode cX12_comesThere 162 = .ok (.isub, 1) := by decide +kernel
theorem dX12_comesThere_163 : decode cX12_comesThere 163 = .ok (.if_icmp .ne 7, 3) := by decide +kernel
theorem dX12_comesThere_166 : decode cX12_comesThere 166 = .ok (.iconst 1, 1) := by decide +kernel
theorem dX12_comesThere_167 : decode cX12_comesThere 167 = .ok (.goto 4, 3) := by decide +kernel
theorem dX12_comesThere_170 : decode cX12_comesThere 170 = .ok (.iconst 0, 1) := by decide +kernel
theorem dX12_comesThere_171 : decode cX12_comesThere 171 = .ok (.ireturn, 1) := by decide +kernel
set_option maxRecDepth 20000 in
theorem ggX12_readPipe_X12_number : GoodIn wsX12_readPipe wsX12_number := goodIn_r _ [6, 7, 8, 9, 10, 11, 5, 12, 13, 14, 15, 16, 17, 18, 19, 20, 21, 22, 23, 24, 25, 26, 27, 28, 29, 30, 31, 32, 33, 34, 35, 36, 37, 38, 39, 40, 41, 42, 124, 125, 126, 127, 128, 129, 130, 131, 132, 133, 134, 135, 136, 137, 138, 139, 140, 141, 142, 143, 144, 145, 146, 147, 148, 149, 150, 151, 152, 153, 154, 155, 156, 157] (by decide +kernel) (by decide +kernel)
set_option maxRecDepth 20000 in
theorem gX12_readPipe_X12_number : GoodIn wsX12_readPipe (wsV RX12 154 RX12 yX12_number wsX12_number) := goodIn_app (goodIn_of _ (by decide +kernel)) ggX12_readPipe_X12_number
set_option maxRecDepth 20000 in
theorem ggX12_readPipe_X12_told : GoodIn wsX12_readPipe wsX12_told := goodIn_r _ [46, 47, 48, 49, 5, 50, 51, 52, 53, 54, 55, 56, 57, 58, 7, 27, 18, 42, 9, 10, 11, 12, 13, 59, 60, 61, 62, 63, 64, 65, 66, 67, 68, 69, 70, 71, 72, 73, 74, 75, 76, 77, 78, 79, 80, 81, 82, 83, 84, 85, 86, 87, 88, 89, 90, 91, 92, 93, 94, 95, 96, 97, 98, 99, 100, 101, 102, 103, 104, 105, 106, 107, 23, 24, 25, 26, 28, 29, 30, 31, 8, 32, 33, 34, 35, 36, 37, 38, 39, 40, 41, 20, 21, 22, 14, 15, 16, 17, 19, 2, 3, 4, 6, 124, 125, 126, 127, 128, 129, 130, 131, 132, 133, 134, 135, 136, 137, 138, 139, 140, 141, 142, 143, 144, 145, 146, 147, 148, 149, 150, 151, 152, 153, 154, 155, 156, 157] (by decide +kernel) (by decide +kernel)
set_option maxRecDepth 20000 in
theorem gX12_readPipe_X12_told : GoodIn wsX12_readPipe (wsV RX12 187 RX12 yX12_told wsX12_told) := goodIn_app (goodIn_of _ (by decide +kernel)) ggX12_readPipe_X12_told
set_option maxRecDepth 20000 in
theorem ggX12_readPipe_X12_needsWord : GoodIn wsX12_readPipe wsX12_needsWord := goodIn_r _ [50, 51, 52, 53, 5, 54, 55, 56, 57, 58, 7, 27, 18, 42, 9, 10, 11, 12, 13, 59, 60, 61, 62, 63, 64, 65, 66, 67, 68, 69, 70, 71, 72, 73, 74, 75, 76, 77, 78, 79, 80, 81, 82, 83, 84, 85, 86, 87, 88, 89, 90, 91, 92, 93, 94, 95, 96, 97, 98, 99, 100, 101, 102, 103, 104, 105, 106, 107, 23, 24, 25, 26, 28, 29, 30, 31, 8, 32, 33, 34, 35, 36, 37, 38, 39, 40, 41, 20, 21, 22, 14, 15, 16, 17, 19, 124, 125, 126, 127, 128, 129, 130, 131, 132, 133, 134, 135, 136, 137, 138, 139, 140, 141, 142, 143, 144, 145, 146, 147, 148, 149, 150, 151, 152, 153, 154, 155, 156, 157] (by decide +kernel) (by decide +kernel)
set_option maxRecDepth 20000 in
theorem gX12_readPipe_X12_needsWord : GoodIn wsX12_readPipe (wsV RX12 150 RX12 yX12_needsWord wsX12_needsWord) := goodIn_app (goodIn_of _ (by decide +kernel)) ggX12_readPipe_X12_needsWord
set_option maxRecDepth 20000 in
theorem ggX12_readPipe_X12_good : GoodIn wsX12_readPipe wsX12_good := goodIn_r _ [12, 13, 124, 125, 126, 127, 128, 129, 130, 131, 132, 133, 134, 135, 136, 137, 138, 139, 140, 141, 142, 143, 144, 145, 146, 147, 148, 149, 150, 151, 152, 153, 154, 155, 156, 157] (by decide +kernel) (by decide +kernel)
set_option maxRecDepth 20000 in
theorem gX12_readPipe_X12_good : GoodIn wsX12_readPipe (wsV RX12 122 RX12 yX12_good wsX12_good) := goodIn_app (goodIn_of _ (by decide +kernel)) ggX12_readPipe_X12_good
set_option maxRecDepth 20000 in
theorem ggX12_readPipe_X12_readMoves : GoodIn wsX12_readPipe wsX12_readMoves := goodIn_r _ [111, 1, 112, 113, 114, 5, 115, 55, 56, 57, 58, 7, 27, 18, 42, 9, 10, 11, 12, 13, 59, 60, 61, 62, 63, 64, 65, 66, 67, 68, 69, 70, 71, 72, 73, 74, 75, 76, 77, 78, 79, 80, 81, 82, 83, 84, 85, 86, 87, 88, 89, 90, 91, 92, 93, 94, 95, 96, 97, 98, 99, 100, 101, 102, 103, 104, 105, 106, 107, 14, 15, 16, 17, 19, 116, 117, 118, 119, 23, 24, 25, 26, 28, 29, 30, 31, 8, 32, 33, 34, 35, 36, 37, 38, 39, 40, 41, 20, 21, 22, 2, 3, 4, 6, 124, 125, 126, 127, 128, 129, 130, 131, 132, 133, 134, 135, 136, 137, 138, 139, 140, 141, 142, 143, 144, 145, 146, 147, 148, 149, 150, 151, 152, 153, 154, 155, 156, 157] (by decide +kernel) (by decide +kernel)
set_option maxRecDepth 20000 in
theorem gX12_readPipe_X12_readMoves : GoodIn wsX12_readPipe (wsV RX12 202 RX12 yX12_readMoves wsX12_readMoves) := goodIn_app (goodIn_of _ (by decide +kernel)) ggX12_readPipe_X12_readMoves
set_option maxRecDepth 20000 in
theorem ggX12_readPipe_X12_is : GoodIn wsX12_readPipe wsX12_is := goodIn_r _ [58, 7, 27, 18, 42, 9, 10, 11, 5, 12, 13, 59, 60, 61, 62, 63, 64, 65, 66, 67, 68, 69, 70, 71, 72, 73, 74, 75, 76, 77, 78, 79, 80, 81, 82, 83, 84, 85, 86, 87, 88, 89, 90, 91, 92, 93, 94, 95, 96, 97, 98, 99, 100, 101, 102, 103, 104, 105, 106, 107, 124, 125, 126, 127, 128, 129, 130, 131, 132, 133, 134, 135, 136, 137, 138, 139, 140, 141, 142, 143, 144, 145, 146, 147, 148, 149, 150, 151, 152, 153, 154, 155, 156, 157] (by decide +kernel) (by decide +kernel)
set_option maxRecDepth 20000 in
theorem gX12_readPipe_X12_is : GoodIn wsX12_readPipe (wsV RX12 136 RX12 yX12_is wsX12_is) := goodIn_app (goodIn_of _ (by decide +kernel)) ggX12_readPipe_X12_is
set_option maxRecDepth 20000 in
theorem ggX12_readPipe_X12_comesThere : GoodIn wsX12_readPipe wsX12_comesThere := goodIn_r _ [123, 1, 124, 125, 126, 127, 128, 129, 130, 131, 132, 133, 134, 135, 136, 137, 138, 139, 140, 141, 142, 143, 144, 145, 146, 147, 148, 149, 150, 151, 152, 153, 154, 155, 156, 157] (by decide +kernel) (by decide +kernel)
set_option maxRecDepth 20000 in
theorem gX12_readPipe_X12_comesThere : GoodIn wsX12_readPipe (wsV RX12 207 RX12 yX12_comesThere wsX12_comesThere) := goodIn_app (goodIn_of _ (by decide +kernel)) ggX12_readPipe_X12_comesThere
set_option maxRecDepth 20000 in
theorem ggX12_readPipe_X12_errs : GoodIn wsX12_readPipe wsX12_errs := goodIn_r _ [17, 13, 18, 19, 9, 10, 11, 5, 12, 124, 125, 126, 127, 128, 129, 130, 131, 132, 133, 134, 135, 136, 137, 138, 139, 140, 141, 142, 143, 144, 145, 146, 147, 148, 149, 150, 151, 152, 153, 154, 155, 156, 157] (by decide +kernel) (by decide +kernel)
set_option maxRecDepth 20000 in
theorem gX12_readPipe_X12_errs : GoodIn wsX12_readPipe (wsV RX12 146 RX12 yX12_errs wsX12_errs) := goodIn_app (goodIn_of _ (by decide +kernel)) ggX12_readPipe_X12_errs
set_option maxRecDepth 20000 in
theorem ggX12_readPipe_X12_takes : GoodIn wsX12_readPipe wsX12_takes := goodIn_r _ [54, 55, 56, 57, 5, 58, 7, 27, 18, 42, 9, 10, 11, 12, 13, 59, 60, 61, 62, 63, 64, 65, 66, 67, 68, 69, 70, 71, 72, 73, 74, 75, 76, 77, 78, 79, 80, 81, 82, 83, 84, 85, 86, 87, 88, 89, 90, 91, 92, 93, 94, 95, 96, 97, 98, 99, 100, 101, 102, 103, 104, 105, 106, 107, 23, 24, 25, 26, 28, 29, 30, 31, 8, 32, 33, 34, 35, 36, 37, 38, 39, 40, 41, 20, 21, 22, 124, 125, 126, 127, 128, 129, 130, 131, 132, 133, 134, 135, 136, 137, 138, 139, 140, 141, 142, 143, 144, 145, 146, 147, 148, 149, 150, 151, 152, 153, 154, 155, 156, 157] (by decide +kernel) (by decide +kernel)
set_option maxRecDepth 20000 in
theorem gX12_readPipe_X12_takes : GoodIn wsX12_readPipe (wsV RX12 143 RX12 yX12_takes wsX12_takes) := goodIn_app (goodIn_of _ (by decide +kernel)) ggX12_readPipe_X12_takes
theorem dX12_readPipe_0 : decode cX12_readPipe 0 = .ok (.bipush 26, 2) := by decide +kernel
theorem dX12_readPipe_2 : decode cX12_readPipe 2 = .ok (.bipush 24, 2) := by decide +kernel
theorem dX12_readPipe_4 : decode cX12_readPipe 4 = .ok (.aload_n 0, 1) := by decide +kernel
theorem dX12_readPipe_5 : decode cX12_readPipe 5 = .ok (.getfield 34, 3) := by decide +kernel
theorem dX12_readPipe_8 : decode cX12_readPipe 8 = .ok (.iconst 2, 1) := by decide +kernel
theorem dX12_readPipe_9 : decode cX12_readPipe 9 = .ok (.iaload, 1) := by decide +kernel
theorem dX12_readPipe_10 : decode cX12_readPipe 10 = .ok (.imul, 1) := by decide +kernel
theorem dX12_readPipe_11 : decode cX12_readPipe 11 = .ok (.iadd, 1) := by decide +kernel
theorem dX12_readPipe_12 : decode cX12_readPipe 12 = .ok (.istore_n 1, 1) := by decide +kernel
theorem dX12_readPipe_13 : decode cX12_readPipe 13 = .ok (.aload_n 0, 1) := by decide +kernel
theorem dX12_readPipe_14 : decode cX12_readPipe 14 = .ok (.iconst 0, 1) := by decide +kernel
theorem dX12_readPipe_15 : decode cX12_readPipe 15 = .ok (.aload_n 0, 1) := by decide +kernel
theorem dX12_readPipe_16 : decode cX12_readPipe 16 = .ok (.getfield 34, 3) := by decide +kernel
theorem dX12_readPipe_19 : decode cX12_readPipe 19 = .ok (.iconst 1, 1) := by decide +kernel
theorem dX12_readPipe_20 : decode cX12_readPipe 20 = .ok (.iaload, 1) := by decide +kernel
theorem dX12_readPipe_21 : decode cX12_readPipe 21 = .ok (.iconst 1, 1) := by decide +kernel
theorem dX12_readPipe_22 : decode cX12_readPipe 22 = .ok (.isub, 1) := by decide +kernel
theorem dX12_readPipe_23 : decode cX12_readPipe 23 = .ok (.invokevirtual 154, 3) := by decide +kernel
theorem dX12_readPipe_26 : decode cX12_readPipe 26 = .ok (.istore_n 2, 1) := by decide +kernel
theorem dX12_readPipe_27 : decode cX12_readPipe 27 = .ok (.aload_n 0, 1) := by decide +kernel
theorem dX12_readPipe_28 : decode cX12_readPipe 28 = .ok (.ldc 196, 2) := by decide +kernel
theorem dX12_readPipe_30 : decode cX12_readPipe 30 = .ok (.iload_n 2, 1) := by decide +kernel
theorem dX12_readPipe_31 : decode cX12_readPipe 31 = .ok (.iconst 1, 1) := by decide +kernel
theorem dX12_readPipe_32 : decode cX12_readPipe 32 = .ok (.iadd, 1) := by decide +kernel
theorem dX12_readPipe_33 : decode cX12_readPipe 33 = .ok (.aload_n 0, 1) := by decide +kernel
theorem dX12_readPipe_34 : decode cX12_readPipe 34 = .ok (.getfield 34, 3) := by decide +kernel
theorem dX12_readPipe_37 : decode cX12_readPipe 37 = .ok (.iconst 1, 1) := by decide +kernel
theorem dX12_readPipe_38 : decode cX12_readPipe 38 = .ok (.iaload, 1) := by decide +kernel
theorem dX12_readPipe_39 : decode cX12_readPipe 39 = .ok (.iconst 1, 1) := by decide +kernel
theorem dX12_readPipe_40 : decode cX12_readPipe 40 = .ok (.isub, 1) := by decide +kernel
theorem dX12_readPipe_41 : decode cX12_readPipe 41 = .ok (.invokevirtual 187, 3) := by decide +kernel
theorem dX12_readPipe_44 : decode cX12_readPipe 44 = .ok (.istore_n 3, 1) := by decide +kernel
theorem dX12_readPipe_45 : decode cX12_readPipe 45 = .ok (.aload_n 0, 1) := by decide +kernel
theorem dX12_readPipe_46 : decode cX12_readPipe 46 = .ok (.getfield 34, 3) := by decide +kernel
theorem dX12_readPipe_49 : decode cX12_readPipe 49 = .ok (.iload_n 1, 1) := by decide +kernel
theorem dX12_readPipe_50 : decode cX12_readPipe 50 = .ok (.iconst 0, 1) := by decide +kernel
theorem dX12_readPipe_51 : decode cX12_readPipe 51 = .ok (.iadd, 1) := by decide +kernel
theorem dX12_readPipe_52 : decode cX12_readPipe 52 = .ok (.iload_n 2, 1) := by decide +kernel
theorem dX12_readPipe_53 : decode cX12_readPipe 53 = .ok (.iastore, 1) := by decide +kernel
theorem dX12_readPipe_54 : decode cX12_readPipe 54 = .ok (.aload_n 0, 1) := by decide +kernel
theorem dX12_readPipe_55 : decode cX12_readPipe 55 = .ok (.getfield 34, 3) := by decide +kernel
theorem dX12_readPipe_58 : decode cX12_readPipe 58 = .ok (.iload_n 1, 1) := by decide +kernel
theorem dX12_readPipe_59 : decode cX12_readPipe 59 = .ok (.iconst 1, 1) := by decide +kernel
theorem dX12_readPipe_60 : decode cX12_readPipe 60 = .ok (.iadd, 1) := by decide +kernel
theorem dX12_readPipe_61 : decode cX12_readPipe 61 = .ok (.iload_n 3, 1) := by decide +kernel
theorem dX12_readPipe_62 : decode cX12_readPipe 62 = .ok (.iastore, 1) := by decide +kernel
theorem dX12_readPipe_63 : decode cX12_readPipe 63 = .ok (.aload_n 0, 1) := by decide +kernel
theorem dX12_readPipe_64 : decode cX12_readPipe 64 = .ok (.getfield 34, 3) := by decide +kernel
theorem dX12_readPipe_67 : decode cX12_readPipe 67 = .ok (.iload_n 1, 1) := by decide +kernel
theorem dX12_readPipe_68 : decode cX12_readPipe 68 = .ok (.iconst 2, 1) := by decide +kernel
theorem dX12_readPipe_69 : decode cX12_readPipe 69 = .ok (.iadd, 1) := by decide +kernel
theorem dX12_readPipe_70 : decode cX12_readPipe 70 = .ok (.aload_n 0, 1) := by decide +kernel
theorem dX12_readPipe_71 : decode cX12_readPipe 71 = .ok (.ldc 198, 2) := by decide +kernel
theorem dX12_readPipe_73 : decode cX12_readPipe 73 = .ok (.iconst 1, 1) := by decide +kernel
theorem dX12_readPipe_74 : decode cX12_readPipe 74 = .ok (.bipush 40, 2) := by decide +kernel
theorem dX12_readPipe_76 : decode cX12_readPipe 76 = .ok (.invokevirtual 187, 3) := by decide +kernel
theorem dX12_readPipe_79 : decode cX12_readPipe 79 = .ok (.iastore, 1) := by decide +kernel
theorem dX12_readPipe_80 : decode cX12_readPipe 80 = .ok (.aload_n 0, 1) := by decide +kernel
theorem dX12_readPipe_81 : decode cX12_readPipe 81 = .ok (.ldc 200, 2) := by decide +kernel
theorem dX12_readPipe_83 : decode cX12_readPipe 83 = .ok (.invokevirtual 150, 3) := by decide +kernel
theorem dX12_readPipe_86 : decode cX12_readPipe 86 = .ok (.aload_n 0, 1) := by decide +kernel
theorem dX12_readPipe_87 : decode cX12_readPipe 87 = .ok (.invokevirtual 122, 3) := by decide +kernel
theorem dX12_readPipe_90 : decode cX12_readPipe 90 = .ok (.ifCond .eq 8, 3) := by decide +kernel
theorem dX12_readPipe_93 : decode cX12_readPipe 93 = .ok (.aload_n 0, 1) := by decide +kernel
theorem dX12_readPipe_94 : decode cX12_readPipe 94 = .ok (.iload_n 1, 1) := by decide +kernel
theorem dX12_readPipe_95 : decode cX12_readPipe 95 = .ok (.invokevirtual 202, 3) := by decide +kernel
theorem dX12_readPipe_98 : decode cX12_readPipe 98 = .ok (.aload_n 0, 1) := by decide +kernel
theorem dX12_readPipe_99 : decode cX12_readPipe 99 = .ok (.ldc 205, 2) := by decide +kernel
theorem dX12_readPipe_101 : decode cX12_readPipe 101 = .ok (.invokevirtual 136, 3) := by decide +kernel
theorem dX12_readPipe_104 : decode cX12_readPipe 104 = .ok (.ifCond .eq 16, 3) := by decide +kernel
theorem dX12_readPipe_107 : decode cX12_readPipe 107 = .ok (.aload_n 0, 1) := by decide +kernel
theorem dX12_readPipe_108 : decode cX12_readPipe 108 = .ok (.iload_n 1, 1) := by decide +kernel
theorem dX12_readPipe_109 : decode cX12_readPipe 109 = .ok (.invokevirtual 207, 3) := by decide +kernel
theorem dX12_readPipe_112 : decode cX12_readPipe 112 = .ok (.ifCond .ne 8, 3) := by decide +kernel
theorem dX12_readPipe_115 : decode cX12_readPipe 115 = .ok (.aload_n 0, 1) := by decide +kernel
theorem dX12_readPipe_116 : decode cX12_readPipe 116 = .ok (.iconst 2, 1) := by decide +kernel
theorem dX12_readPipe_117 : decode cX12_readPipe 117 = .ok (.invokevirtual 146, 3) := by decide +kernel
theorem dX12_readPipe_120 : decode cX12_readPipe 120 = .ok (.aload_n 0, 1) := by decide +kernel
theorem dX12_readPipe_121 : decode cX12_readPipe 121 = .ok (.getfield 34, 3) := by decide +kernel
theorem dX12_readPipe_124 : decode cX12_readPipe 124 = .ok (.iload_n 1, 1) := by decide +kernel
theorem dX12_readPipe_125 : decode cX12_readPipe 125 = .ok (.iconst 4, 1) := by decide +kernel
theorem dX12_readPipe_126 : decode cX12_readPipe 126 = .ok (.iadd, 1) := by decide +kernel
theorem dX12_readPipe_127 : decode cX12_readPipe 127 = .ok (.aload_n 0, 1) := by decide +kernel
theorem dX12_readPipe_128 : decode cX12_readPipe 128 = .ok (.ldc 205, 2) := by decide +kernel
theorem dX12_readPipe_130 : decode cX12_readPipe 130 = .ok (.iconst 0, 1) := by decide +kernel
theorem dX12_readPipe_131 : decode cX12_readPipe 131 = .ok (.sipush 30000, 3) := by decide +kernel
theorem dX12_readPipe_134 : decode cX12_readPipe 134 = .ok (.invokevirtual 187, 3) := by decide +kernel
theorem dX12_readPipe_137 : decode cX12_readPipe 137 = .ok (.iastore, 1) := by decide +kernel
theorem dX12_readPipe_138 : decode cX12_readPipe 138 = .ok (.aload_n 0, 1) := by decide +kernel
theorem dX12_readPipe_139 : decode cX12_readPipe 139 = .ok (.getfield 34, 3) := by decide +kernel
theorem dX12_readPipe_142 : decode cX12_readPipe 142 = .ok (.iload_n 1, 1) := by decide +kernel
theorem dX12_readPipe_143 : decode cX12_readPipe 143 = .ok (.iconst 5, 1) := by decide +kernel
theorem dX12_readPipe_144 : decode cX12_readPipe 144 = .ok (.iadd, 1) := by decide +kernel
theorem dX12_readPipe_145 : decode cX12_readPipe 145 = .ok (.aload_n 0, 1) := by decide +kernel
theorem dX12_readPipe_146 : decode cX12_readPipe 146 = .ok (.ldc 211, 2) := by decide +kernel
theorem dX12_readPipe_148 : decode cX12_readPipe 148 = .ok (.iconst 1, 1) := by decide +kernel
theorem dX12_readPipe_149 : decode cX12_readPipe 149 = .ok (.sipush 9999, 3) := by decide +kernel
theorem dX12_readPipe_152 : decode cX12_readPipe 152 = .ok (.invokevirtual 187, 3) := by decide +kernel
theorem dX12_readPipe_155 : decode cX12_readPipe 155 = .ok (.iastore, 1) := by decide +kernel
theorem dX12_readPipe_156 : decode cX12_readPipe 156 = .ok (.aload_n 0, 1) := by decide +kernel
theorem dX12_readPipe_157 : decode cX12_readPipe 157 = .ok (.getfield 34, 3) := by decide +kernel
theorem dX12_readPipe_160 : decode cX12_readPipe 160 = .ok (.iload_n 1, 1) := by decide +kernel
theorem dX12_readPipe_161 : decode cX12_readPipe 161 = .ok (.bipush 6, 2) := by decide +kernel
theorem dX12_readPipe_163 : decode cX12_readPipe 163 = .ok (.iadd, 1) := by decide +kernel
theorem dX12_readPipe_164 : decode cX12_readPipe 164 = .ok (.aload_n 0, 1) := by decide +kernel
theorem dX12_readPipe_165 : decode cX12_readPipe 165 = .ok (.ldc 175, 2) := by decide +kernel
theorem dX12_readPipe_167 : decode cX12_readPipe 167 = .ok (.invokevirtual 143, 3) := by decide +kernel
theorem dX12_readPipe_170 : decode cX12_readPipe 170 = .ok (.ifCond .eq 7, 3) := by decide +kernel
theorem dX12_readPipe_173 : decode cX12_readPipe 173 = .ok (.iconst 1, 1) := by decide +kernel
theorem dX12_readPipe_174 : decode cX12_readPipe 174 = .ok (.goto 4, 3) := by decide +kernel
theorem dX12_readPipe_177 : decode cX12_readPipe 177 = .ok (.iconst 0, 1) := by decide +kernel
theorem dX12_readPipe_178 : decode cX12_readPipe 178 = .ok (.iastore, 1) := by decide +kernel
theorem dX12_readPipe_179 : decode cX12_readPipe 179 = .ok (.aload_n 0, 1) := by decide +kernel
theorem dX12_readPipe_180 : decode cX12_readPipe 180 = .ok (.getfield 34, 3) := by decide +kernel
theorem dX12_readPipe_183 : decode cX12_readPipe 183 = .ok (.iload_n 1, 1) := by decide +kernel
theorem dX12_readPipe_184 : decode cX12_readPipe 184 = .ok (.bipush 7, 2) := by decide +kernel
theorem dX12_readPipe_186 : decode cX12_readPipe 186 = .ok (.iadd, 1) := by decide +kernel
theorem dX12_readPipe_187 : decode cX12_readPipe 187 = .ok (.aload_n 0, 1) := by decide +kernel
theorem dX12_readPipe_188 : decode cX12_readPipe 188 = .ok (.ldc 213, 2) := by decide +kernel
theorem dX12_readPipe_190 : decode cX12_readPipe 190 = .ok (.invokevirtual 143, 3) := by decide +kernel
theorem dX12_readPipe_193 : decode cX12_readPipe 193 = .ok (.ifCond .eq 14, 3) := by decide +kernel
theorem dX12_readPipe_196 : decode cX12_readPipe 196 = .ok (.aload_n 0, 1) := by decide +kernel
theorem dX12_readPipe_197 : decode cX12_readPipe 197 = .ok (.iconst 0, 1) := by decide +kernel
theorem dX12_readPipe_198 : decode cX12_readPipe 198 = .ok (.sipush 30000, 3) := by decide +kernel
theorem dX12_readPipe_201 : decode cX12_readPipe 201 = .ok (.invokevirtual 154, 3) := by decide +kernel
theorem dX12_readPipe_204 : decode cX12_readPipe 204 = .ok (.goto 4, 3) := by decide +kernel
theorem dX12_readPipe_207 : decode cX12_readPipe 207 = .ok (.iconst 0, 1) := by decide +kernel
theorem dX12_readPipe_208 : decode cX12_readPipe 208 = .ok (.iastore, 1) := by decide +kernel
theorem dX12_readPipe_209 : decode cX12_readPipe 209 = .ok (.aload_n 0, 1) := by decide +kernel
theorem dX12_readPipe_210 : decode cX12_readPipe 210 = .ok (.invokevirtual 122, 3) := by decide +kernel
theorem dX12_readPipe_213 : decode cX12_readPipe 213 = .ok (.ifCond .eq 13, 3) := by decide +kernel
theorem dX12_readPipe_216 : decode cX12_readPipe 216 = .ok (.aload_n 0, 1) := by decide +kernel
theorem dX12_readPipe_217 : decode cX12_readPipe 217 = .ok (.getfield 34, 3) := by decide +kernel
theorem dX12_readPipe_220 : decode cX12_readPipe 220 = .ok (.iconst 2, 1) := by decide +kernel
theorem dX12_readPipe_221 : decode cX12_readPipe 221 = .ok (.dup2, 1) := by decide +kernel
theorem dX12_readPipe_222 : decode cX12_readPipe 222 = .ok (.iaload, 1) := by decide +kernel
theorem dX12_readPipe_223 : decode cX12_readPipe 223 = .ok (.iconst 1, 1) := by decide +kernel
theorem dX12_readPipe_224 : decode cX12_readPipe 224 = .ok (.iadd, 1) := by decide +kernel
theorem dX12_readPipe_225 : decode cX12_readPipe 225 = .ok (.iastore, 1) := by decide +kernel
theorem dX12_readPipe_226 : decode cX12_readPipe 226 = .ok (.return_, 1) := by decide +kernel
theorem dX12_lies_0 : decode cX12_lies 0 = .ok (.iconst 0, 1) := by decide +kernel
theorem dX12_lies_1 : decode cX12_lies 1 = .ok (.istore 4, 2) := by decide +kernel
theorem dX12_lies_3 : decode cX12_lies 3 = .ok (.iload 4, 2) := by decide +kernel
theorem dX12_lies_5 : decode cX12_lies 5 = .ok (.iload_n 1, 1) := by decide +kernel
theorem dX12_lies_6 : decode cX12_lies 6 = .ok (.if_icmp .ge 48, 3) := by decide +kernel
theorem dX12_lies_9 : decode cX12_lies 9 = .ok (.aload_n 0, 1) := by decide +kernel
theorem dX12_lies_10 : decode cX12_lies 10 = .ok (.getfield 34, 3) := by decide +kernel
theorem dX12_lies_13 : decode cX12_lies 13 = .ok (.sipush 482, 3) := by decide +kernel
theorem dX12_lies_16 : decode cX12_lies 16 = .ok (.aload_n 0, 1) := by decide +kernel
theorem dX12_lies_17 : decode cX12_lies 17 = .ok (.getfield 34, 3) := by decide +kernel
theorem dX12_lies_20 : decode cX12_lies 20 = .ok (.bipush 6, 2) := by decide +kernel
theorem dX12_lies_22 : decode cX12_lies 22 = .ok (.iaload, 1) := by decide +kernel
theorem dX12_lies_23 : decode cX12_lies 23 = .ok (.iadd, 1) := by decide +kernel
theorem dX12_lies_24 : decode cX12_lies 24 = .ok (.iload 4, 2) := by decide +kernel
theorem dX12_lies_26 : decode cX12_lies 26 = .ok (.iconst 2, 1) := by decide +kernel
theorem dX12_lies_27 : decode cX12_lies 27 = .ok (.irem, 1) := by decide +kernel
theorem dX12_lies_28 : decode cX12_lies 28 = .ok (.ifCond .ne 7, 3) := by decide +kernel
theorem dX12_lies_31 : decode cX12_lies 31 = .ok (.iload_n 2, 1) := by decide +kernel
theorem dX12_lies_32 : decode cX12_lies 32 = .ok (.goto 4, 3) := by decide +kernel
theorem dX12_lies_35 : decode cX12_lies 35 = .ok (.iload_n 3, 1) := by decide +kernel
theorem dX12_lies_36 : decode cX12_lies 36 = .ok (.iastore, 1) := by decide +kernel
theorem dX12_lies_37 : decode cX12_lies 37 = .ok (.aload_n 0, 1) := by decide +kernel
theorem dX12_lies_38 : decode cX12_lies 38 = .ok (.getfield 34, 3) := by decide +kernel
theorem dX12_lies_41 : decode cX12_lies 41 = .ok (.bipush 6, 2) := by decide +kernel
theorem dX12_lies_43 : decode cX12_lies 43 = .ok (.dup2, 1) := by decide +kernel
theorem dX12_lies_44 : decode cX12_lies 44 = .ok (.iaload, 1) := by decide +kernel
theorem dX12_lies_45 : decode cX12_lies 45 = .ok (.iconst 1, 1) := by decide +kernel
theorem dX12_lies_46 : decode cX12_lies 46 = .ok (.iadd, 1) := by decide +kernel
theorem dX12_lies_47 : decode cX12_lies 47 = .ok (.iastore, 1) := by decide +kernel
theorem dX12_lies_48 : decode cX12_lies 48 = .ok (.iinc 4 1, 3) := by decide +kernel
theorem dX12_lies_51 : decode cX12_lies 51 = .ok (.goto (-48), 3) := by decide +kernel
theorem dX12_lies_54 : decode cX12_lies 54 = .ok (.return_, 1) := by decide +kernel
set_option maxRecDepth 20000 in
theorem ggX12_hoursHere_X12_good : GoodIn wsX12_hoursHere wsX12_good := goodIn_r _ [9, 10, 44, 45, 46, 47, 48, 49, 50, 51, 52, 53, 54, 55, 56, 57, 58, 59, 60, 61, 62, 63, 64, 65, 66, 67, 68, 69, 70, 71, 72, 73, 74, 75, 76, 77] (by decide +kernel) (by decide +kernel)
set_option maxRecDepth 20000 in
theorem gX12_hoursHere_X12_good : GoodIn wsX12_hoursHere (wsV RX12 122 RX12 yX12_good wsX12_good) := goodIn_app (goodIn_of _ (by decide +kernel)) ggX12_hoursHere_X12_good
set_option maxRecDepth 20000 in
theorem ggX12_hoursHere_X12_in : GoodIn wsX12_hoursHere wsX12_in := goodIn_r _ [13] (by decide +kernel) (by decide +kernel)
set_option maxRecDepth 20000 in
theorem gX12_hoursHere_X12_in : GoodIn wsX12_hoursHere (va_wsS RX12 76 yX12_in wsX12_in) := goodIn_app (goodIn_of _ (by decide +kernel)) ggX12_hoursHere_X12_in
set_option maxRecDepth 20000 in
theorem ggX12_hoursHere_X12_errs : GoodIn wsX12_hoursHere wsX12_errs := goodIn_r _ [17, 10, 18, 19, 5, 6, 7, 8, 9, 44, 45, 46, 47, 48, 49, 50, 51, 52, 53, 54, 55, 56, 57, 58, 59, 60, 61, 62, 63, 64, 65, 66, 67, 68, 69, 70, 71, 72, 73, 74, 75, 76, 77] (by decide +kernel) (by decide +kernel)
set_option maxRecDepth 20000 in
theorem gX12_hoursHere_X12_errs : GoodIn wsX12_hoursHere (wsV RX12 146 RX12 yX12_errs wsX12_errs) := goodIn_app (goodIn_of _ (by decide +kernel)) ggX12_hoursHere_X12_errs
set_option maxRecDepth 20000 in
theorem ggX12_hoursHere_X12_number : GoodIn wsX12_hoursHere wsX12_number := goodIn_r _ [23, 1, 2, 5, 6, 7, 8, 9, 10, 14, 15, 16, 17, 18, 19, 11, 12, 13, 24, 25, 26, 27, 28, 29, 30, 31, 32, 33, 34, 35, 36, 37, 38, 39, 40, 41, 42, 43, 44, 45, 46, 47, 48, 49, 50, 51, 52, 53, 54, 55, 56, 57, 58, 59, 60, 61, 62, 63, 64, 65, 66, 67, 68, 69, 70, 71, 72, 73, 74, 75, 76, 77] (by decide +kernel) (by decide +kernel)
set_option maxRecDepth 20000 in
theorem gX12_hoursHere_X12_number : GoodIn wsX12_hoursHere (wsV RX12 154 RX12 yX12_number wsX12_number) := goodIn_app (goodIn_of _ (by decide +kernel)) ggX12_hoursHere_X12_number
theorem dX12_hoursHere_0 : decode cX12_hoursHere 0 = .ok (.aload_n 0, 1) := by decide +kernel
theorem dX12_hoursHere_1 : decode cX12_hoursHere 1 = .ok (.invokevirtual 122, 3) := by decide +kernel
theorem dX12_hoursHere_4 : decode cX12_hoursHere 4 = .ok (.ifCond .eq 49, 3) := by decide +kernel
theorem dX12_hoursHere_7 : decode cX12_hoursHere 7 = .ok (.aload_n 0, 1) := by decide +kernel
theorem dX12_hoursHere_8 : decode cX12_hoursHere 8 = .ok (.getfield 98, 3) := by decide +kernel
theorem dX12_hoursHere_11 : decode cX12_hoursHere 11 = .ok (.iconst 2, 1) := by decide +kernel
theorem dX12_hoursHere_12 : decode cX12_hoursHere 12 = .ok (.if_icmp .ne 41, 3) := by decide +kernel
theorem dX12_hoursHere_15 : decode cX12_hoursHere 15 = .ok (.aload_n 0, 1) := by decide +kernel
theorem dX12_hoursHere_16 : decode cX12_hoursHere 16 = .ok (.getfield 109, 3) := by decide +kernel
theorem dX12_hoursHere_19 : decode cX12_hoursHere 19 = .ok (.i2l, 1) := by decide +kernel
theorem dX12_hoursHere_20 : decode cX12_hoursHere 20 = .ok (.lconst 1, 1) := by decide +kernel
theorem dX12_hoursHere_21 : decode cX12_hoursHere 21 = .ok (.ldc2_w 215, 3) := by decide +kernel
theorem dX12_hoursHere_24 : decode cX12_hoursHere 24 = .ok (.invokestatic 76, 3) := by decide +kernel
theorem dX12_hoursHere_27 : decode cX12_hoursHere 27 = .ok (.ifCond .eq 26, 3) := by decide +kernel
theorem dX12_hoursHere_30 : decode cX12_hoursHere 30 = .ok (.aload_n 0, 1) := by decide +kernel
theorem dX12_hoursHere_31 : decode cX12_hoursHere 31 = .ok (.getfield 34, 3) := by decide +kernel
theorem dX12_hoursHere_34 : decode cX12_hoursHere 34 = .ok (.bipush 6, 2) := by decide +kernel
theorem dX12_hoursHere_36 : decode cX12_hoursHere 36 = .ok (.iaload, 1) := by decide +kernel
theorem dX12_hoursHere_37 : decode cX12_hoursHere 37 = .ok (.aload_n 0, 1) := by decide +kernel
theorem dX12_hoursHere_38 : decode cX12_hoursHere 38 = .ok (.getfield 109, 3) := by decide +kernel
theorem dX12_hoursHere_41 : decode cX12_hoursHere 41 = .ok (.iadd, 1) := by decide +kernel
theorem dX12_hoursHere_42 : decode cX12_hoursHere 42 = .ok (.sipush 2000, 3) := by decide +kernel
theorem dX12_hoursHere_45 : decode cX12_hoursHere 45 = .ok (.if_icmp .le 8, 3) := by decide +kernel
theorem dX12_hoursHere_48 : decode cX12_hoursHere 48 = .ok (.aload_n 0, 1) := by decide +kernel
theorem dX12_hoursHere_49 : decode cX12_hoursHere 49 = .ok (.iconst 2, 1) := by decide +kernel
theorem dX12_hoursHere_50 : decode cX12_hoursHere 50 = .ok (.invokevirtual 146, 3) := by decide +kernel
theorem dX12_hoursHere_53 : decode cX12_hoursHere 53 = .ok (.aload_n 0, 1) := by decide +kernel
theorem dX12_hoursHere_54 : decode cX12_hoursHere 54 = .ok (.iconst 1, 1) := by decide +kernel
theorem dX12_hoursHere_55 : decode cX12_hoursHere 55 = .ok (.sipush 1000, 3) := by decide +kernel
theorem dX12_hoursHere_58 : decode cX12_hoursHere 58 = .ok (.invokevirtual 154, 3) := by decide +kernel
theorem dX12_hoursHere_61 : decode cX12_hoursHere 61 = .ok (.ireturn, 1) := by decide +kernel
set_option maxRecDepth 20000 in
theorem ggX12_readRun_X12_hoursHere : GoodIn wsX12_readRun wsX12_hoursHere := goodIn_r _ [5, 6, 7, 8, 9, 10, 11, 12, 4, 13, 14, 15, 16, 17, 18, 19, 20, 21, 22, 23, 24, 25, 26, 27, 28, 29, 30, 31, 32, 33, 34, 35, 36, 37, 38, 39, 40, 41, 42, 43, 44, 45, 46, 47, 117, 118, 119, 120, 121, 122, 123, 124, 125, 126, 127, 128, 129, 130, 131, 132, 133, 134, 135, 136, 137, 138, 139, 140, 141, 142, 143, 144, 145, 146, 147, 148, 149, 150] (by decide +kernel) (by decide +kernel)
set_option maxRecDepth 20000 in
theorem gX12_readRun_X12_hoursHere : GoodIn wsX12_readRun (wsV RX12 217 RX12 yX12_hoursHere wsX12_hoursHere) := goodIn_app (goodIn_of _ (by decide +kernel)) ggX12_readRun_X12_hoursHere
set_option maxRecDepth 20000 in
theorem ggX12_readRun_X12_told : GoodIn wsX12_readRun wsX12_told := goodIn_r _ [51, 52, 53, 54, 4, 55, 56, 57, 58, 59, 60, 61, 62, 63, 6, 32, 22, 47, 10, 11, 12, 13, 14, 64, 65, 66, 67, 68, 69, 70, 71, 72, 73, 74, 75, 76, 77, 78, 79, 80, 81, 82, 83, 84, 85, 86, 87, 88, 89, 90, 91, 92, 93, 94, 95, 96, 97, 98, 99, 100, 101, 102, 103, 104, 105, 106, 107, 108, 109, 110, 111, 112, 28, 29, 30, 31, 33, 34, 35, 36, 7, 37, 38, 39, 40, 41, 42, 43, 44, 45, 46, 15, 16, 17, 18, 19, 20, 21, 23, 24, 25, 26, 27, 117, 118, 119, 120, 121, 122, 123, 124, 125, 126, 127, 128, 129, 130, 131, 132, 133, 134, 135, 136, 137, 138, 139, 140, 141, 142, 143, 144, 145, 146, 147, 148, 149, 150] (by decide +kernel) (by decide +kernel)
set_option maxRecDepth 20000 in
theorem gX12_readRun_X12_told : GoodIn wsX12_readRun (wsV RX12 187 RX12 yX12_told wsX12_told) := goodIn_app (goodIn_of _ (by decide +kernel)) ggX12_readRun_X12_told
set_option maxRecDepth 20000 in
theorem ggX12_readRun_X12_good : GoodIn wsX12_readRun wsX12_good := goodIn_r _ [13, 14, 117, 118, 119, 120, 121, 122, 123, 124, 125, 126, 127, 128, 129, 130, 131, 132, 133, 134, 135, 136, 137, 138, 139, 140, 141, 142, 143, 144, 145, 146, 147, 148, 149, 150] (by decide +kernel) (by decide +kernel)
set_option maxRecDepth 20000 in
theorem gX12_readRun_X12_good : GoodIn wsX12_readRun (wsV RX12 122 RX12 yX12_good wsX12_good) := goodIn_app (goodIn_of _ (by decide +kernel)) ggX12_readRun_X12_good
set_option maxRecDepth 20000 in
theorem ggX12_readRun_X12_lies : GoodIn wsX12_readRun wsX12_lies := goodIn_r _ [116, 9, 117, 118, 119, 120, 121, 122, 123, 124, 125, 126, 127, 128, 129, 130, 131, 132, 133, 134, 135, 136, 137, 138, 139, 140, 141, 142, 143, 144, 145, 146, 147, 148, 149, 150] (by decide +kernel) (by decide +kernel)
set_option maxRecDepth 20000 in
theorem gX12_readRun_X12_lies : GoodIn wsX12_readRun (wsV RX12 221 RX12 yX12_lies wsX12_lies) := goodIn_app (goodIn_of _ (by decide +kernel)) ggX12_readRun_X12_lies
theorem dX12_readRun_0 : decode cX12_readRun 0 = .ok (.aload_n 0, 1) := by decide +kernel
theorem dX12_readRun_1 : decode cX12_readRun 1 = .ok (.invokevirtual 217, 3) := by decide +kernel
theorem dX12_readRun_4 : decode cX12_readRun 4 = .ok (.istore_n 1, 1) := by decide +kernel
theorem dX12_readRun_5 : decode cX12_readRun 5 = .ok (.aload_n 0, 1) := by decide +kernel
theorem dX12_readRun_6 : decode cX12_readRun 6 = .ok (.ldc 220, 2) := by decide +kernel
theorem dX12_readRun_8 : decode cX12_readRun 8 = .ok (.iconst 0, 1) := by decide +kernel
theorem dX12_readRun_9 : decode cX12_readRun 9 = .ok (.sipush 999, 3) := by decide +kernel
theorem dX12_readRun_12 : decode cX12_readRun 12 = .ok (.invokevirtual 187, 3) := by decide +kernel
theorem dX12_readRun_15 : decode cX12_readRun 15 = .ok (.istore_n 2, 1) := by decide +kernel
theorem dX12_readRun_16 : decode cX12_readRun 16 = .ok (.aload_n 0, 1) := by decide +kernel
theorem dX12_readRun_17 : decode cX12_readRun 17 = .ok (.invokevirtual 122, 3) := by decide +kernel
theorem dX12_readRun_20 : decode cX12_readRun 20 = .ok (.ifCond .eq 10, 3) := by decide +kernel
theorem dX12_readRun_23 : decode cX12_readRun 23 = .ok (.aload_n 0, 1) := by decide +kernel
theorem dX12_readRun_24 : decode cX12_readRun 24 = .ok (.iload_n 1, 1) := by decide +kernel
theorem dX12_readRun_25 : decode cX12_readRun 25 = .ok (.iload_n 2, 1) := by decide +kernel
theorem dX12_readRun_26 : decode cX12_readRun 26 = .ok (.iload_n 2, 1) := by decide +kernel
theorem dX12_readRun_27 : decode cX12_readRun 27 = .ok (.invokevirtual 221, 3) := by decide +kernel
theorem dX12_readRun_30 : decode cX12_readRun 30 = .ok (.return_, 1) := by decide +kernel
set_option maxRecDepth 20000 in
theorem ggX12_readSwing_X12_number : GoodIn wsX12_readSwing wsX12_number := goodIn_r _ [5, 6, 7, 8, 9, 10, 4, 11, 12, 13, 14, 15, 16, 17, 18, 19, 20, 21, 22, 23, 24, 25, 26, 27, 28, 29, 30, 31, 32, 33, 34, 35, 36, 37, 38, 39, 40, 41, 117, 118, 119, 120, 121, 122, 123, 124, 125, 126, 127, 128, 129, 130, 131, 132, 133, 134, 135, 136, 137, 138, 139, 140, 141, 142, 143, 144, 145, 146, 147, 148, 149, 150] (by decide +kernel) (by decide +kernel)
set_option maxRecDepth 20000 in
theorem gX12_readSwing_X12_number : GoodIn wsX12_readSwing (wsV RX12 154 RX12 yX12_number wsX12_number) := goodIn_app (goodIn_of _ (by decide +kernel)) ggX12_readSwing_X12_number
set_option maxRecDepth 20000 in
theorem ggX12_readSwing_X12_told : GoodIn wsX12_readSwing wsX12_told := goodIn_r _ [45, 46, 47, 48, 4, 49, 50, 51, 52, 53, 54, 55, 56, 57, 6, 26, 17, 41, 8, 9, 10, 11, 12, 58, 59, 60, 61, 62, 63, 64, 65, 66, 67, 68, 69, 70, 71, 72, 73, 74, 75, 76, 77, 78, 79, 80, 81, 82, 83, 84, 85, 86, 87, 88, 89, 90, 91, 92, 93, 94, 95, 96, 97, 98, 99, 100, 101, 102, 103, 104, 105, 106, 22, 23, 24, 25, 27, 28, 29, 30, 7, 31, 32, 33, 34, 35, 36, 37, 38, 39, 40, 19, 20, 21, 13, 14, 15, 16, 18, 1, 2, 3, 5, 117, 118, 119, 120, 121, 122, 123, 124, 125, 126, 127, 128, 129, 130, 131, 132, 133, 134, 135, 136, 137, 138, 139, 140, 141, 142, 143, 144, 145, 146, 147, 148, 149, 150] (by decide +kernel) (by decide +kernel)
set_option maxRecDepth 20000 in
theorem gX12_readSwing_X12_told : GoodIn wsX12_readSwing (wsV RX12 187 RX12 yX12_told wsX12_told) := goodIn_app (goodIn_of _ (by decide +kernel)) ggX12_readSwing_X12_told
set_option maxRecDepth 20000 in
theorem ggX12_readSwing_X12_needsWord : GoodIn wsX12_readSwing wsX12_needsWord := goodIn_r _ [49, 50, 51, 52, 4, 53, 54, 55, 56, 57, 6, 26, 17, 41, 8, 9, 10, 11, 12, 58, 59, 60, 61, 62, 63, 64, 65, 66, 67, 68, 69, 70, 71, 72, 73, 74, 75, 76, 77, 78, 79, 80, 81, 82, 83, 84, 85, 86, 87, 88, 89, 90, 91, 92, 93, 94, 95, 96, 97, 98, 99, 100, 101, 102, 103, 104, 105, 106, 22, 23, 24, 25, 27, 28, 29, 30, 7, 31, 32, 33, 34, 35, 36, 37, 38, 39, 40, 19, 20, 21, 13, 14, 15, 16, 18, 117, 118, 119, 120, 121, 122, 123, 124, 125, 126, 127, 128, 129, 130, 131, 132, 133, 134, 135, 136, 137, 138, 139, 140, 141, 142, 143, 144, 145, 146, 147, 148, 149, 150] (by decide +kernel) (by decide +kernel)
set_option maxRecDepth 20000 in
theorem gX12_readSwing_X12_needsWord : GoodIn wsX12_readSwing (wsV RX12 150 RX12 yX12_needsWord wsX12_needsWord) := goodIn_app (goodIn_of _ (by decide +kernel)) ggX12_readSwing_X12_needsWord
set_option maxRecDepth 20000 in
theorem ggX12_readSwing_X12_hoursHere : GoodIn wsX12_readSwing wsX12_hoursHere := goodIn_r _ [110, 6, 7, 111, 112, 8, 9, 10, 4, 11, 12, 19, 20, 21, 13, 14, 15, 16, 17, 18, 1, 2, 3, 5, 22, 23, 24, 25, 26, 27, 28, 29, 30, 31, 32, 33, 34, 35, 36, 37, 38, 39, 40, 41, 117, 118, 119, 120, 121, 122, 123, 124, 125, 126, 127, 128, 129, 130, 131, 132, 133, 134, 135, 136, 137, 138, 139, 140, 141, 142, 143, 144, 145, 146, 147, 148, 149, 150] (by decide +kernel) (by decide +kernel)
set_option maxRecDepth 20000 in
theorem gX12_readSwing_X12_hoursHere : GoodIn wsX12_readSwing (wsV RX12 217 RX12 yX12_hoursHere wsX12_hoursHere) := goodIn_app (goodIn_of _ (by decide +kernel)) ggX12_readSwing_X12_hoursHere
set_option maxRecDepth 20000 in
theorem ggX12_readSwing_X12_good : GoodIn wsX12_readSwing wsX12_good := goodIn_r _ [11, 12, 117, 118, 119, 120, 121, 122, 123, 124, 125, 126, 127, 128, 129, 130, 131, 132, 133, 134, 135, 136, 137, 138, 139, 140, 141, 142, 143, 144, 145, 146, 147, 148, 149, 150] (by decide +kernel) (by decide +kernel)
set_option maxRecDepth 20000 in
theorem gX12_readSwing_X12_good : GoodIn wsX12_readSwing (wsV RX12 122 RX12 yX12_good wsX12_good) := goodIn_app (goodIn_of _ (by decide +kernel)) ggX12_readSwing_X12_good
set_option maxRecDepth 20000 in
theorem ggX12_readSwing_X12_lies : GoodIn wsX12_readSwing wsX12_lies := goodIn_r _ [116, 112, 117, 118, 119, 120, 121, 122, 123, 124, 125, 126, 127, 128, 129, 130, 131, 132, 133, 134, 135, 136, 137, 138, 139, 140, 141, 142, 143, 144, 145, 146, 147, 148, 149, 150] (by decide +kernel) (by decide +kernel)
set_option maxRecDepth 20000 in
theorem gX12_readSwing_X12_lies : GoodIn wsX12_readSwing (wsV RX12 221 RX12 yX12_lies wsX12_lies) := goodIn_app (goodIn_of _ (by decide +kernel)) ggX12_readSwing_X12_lies
theorem dX12_readSwing_0 : decode cX12_readSwing 0 = .ok (.aload_n 0, 1) := by decide +kernel
theorem dX12_readSwing_1 : decode cX12_readSwing 1 = .ok (.iconst 0, 1) := by decide +kernel
theorem dX12_readSwing_2 : decode cX12_readSwing 2 = .ok (.sipush 999, 3) := by decide +kernel
theorem dX12_readSwing_5 : decode cX12_readSwing 5 = .ok (.invokevirtual 154, 3) := by decide +kernel
theorem dX12_readSwing_8 : decode cX12_readSwing 8 = .ok (.istore_n 1, 1) := by decide +kernel
theorem dX12_readSwing_9 : decode cX12_readSwing 9 = .ok (.aload_n 0, 1) := by decide +kernel
theorem dX12_readSwing_10 : decode cX12_readSwing 10 = .ok (.ldc 225, 2) := by decide +kernel
theorem dX12_readSwing_12 : decode cX12_readSwing 12 = .ok (.iconst 0, 1) := by decide +kernel
theorem dX12_readSwing_13 : decode cX12_readSwing 13 = .ok (.sipush 999, 3) := by decide +kernel
theorem dX12_readSwing_16 : decode cX12_readSwing 16 = .ok (.invokevirtual 187, 3) := by decide +kernel
theorem dX12_readSwing_19 : decode cX12_readSwing 19 = .ok (.istore_n 2, 1) := by decide +kernel
theorem dX12_readSwing_20 : decode cX12_readSwing 20 = .ok (.aload_n 0, 1) := by decide +kernel
theorem dX12_readSwing_21 : decode cX12_readSwing 21 = .ok (.ldc 227, 2) := by decide +kernel
theorem dX12_readSwing_23 : decode cX12_readSwing 23 = .ok (.invokevirtual 150, 3) := by decide +kernel
theorem dX12_readSwing_26 : decode cX12_readSwing 26 = .ok (.aload_n 0, 1) := by decide +kernel
theorem dX12_readSwing_27 : decode cX12_readSwing 27 = .ok (.invokevirtual 217, 3) := by decide +kernel
theorem dX12_readSwing_30 : decode cX12_readSwing 30 = .ok (.istore_n 3, 1) := by decide +kernel
theorem dX12_readSwing_31 : decode cX12_readSwing 31 = .ok (.aload_n 0, 1) := by decide +kernel
theorem dX12_readSwing_32 : decode cX12_readSwing 32 = .ok (.invokevirtual 122, 3) := by decide +kernel
theorem dX12_readSwing_35 : decode cX12_readSwing 35 = .ok (.ifCond .eq 10, 3) := by decide +kernel
theorem dX12_readSwing_38 : decode cX12_readSwing 38 = .ok (.aload_n 0, 1) := by decide +kernel
theorem dX12_readSwing_39 : decode cX12_readSwing 39 = .ok (.iload_n 3, 1) := by decide +kernel
theorem dX12_readSwing_40 : decode cX12_readSwing 40 = .ok (.iload_n 1, 1) := by decide +kernel
theorem dX12_readSwing_41 : decode cX12_readSwing 41 = .ok (.iload_n 2, 1) := by decide +kernel
theorem dX12_readSwing_42 : decode cX12_readSwing 42 = .ok (.invokevirtual 221, 3) := by decide +kernel
theorem dX12_readSwing_45 : decode cX12_readSwing 45 = .ok (.return_, 1) := by decide +kernel
set_option maxRecDepth 20000 in
theorem ggX12_readRoom_X12_told : GoodIn wsX12_readRoom wsX12_told := goodIn_r _ [6, 7, 8, 9, 5, 10, 11, 12, 13, 14, 15, 16, 17, 18, 19, 20, 21, 22, 23, 24, 25, 26, 27, 28, 29, 30, 31, 32, 33, 34, 35, 36, 37, 38, 39, 40, 41, 42, 43, 44, 45, 46, 47, 48, 49, 50, 51, 52, 53, 54, 55, 56, 57, 58, 59, 60, 61, 62, 63, 64, 65, 66, 67, 68, 69, 70, 71, 72, 73, 74, 75, 76, 77, 78, 79, 80, 81, 82, 83, 84, 85, 86, 87, 88, 89, 90, 91, 92, 93, 94, 95, 96, 97, 98, 99, 100, 101, 102, 103, 104, 105, 106, 107, 108, 109, 110, 111, 112, 113, 114, 115, 116, 117, 118, 119, 120, 121, 122, 123, 124, 125, 126, 127, 128, 129, 130, 131, 132, 133, 134, 135, 136, 137, 138, 139, 140, 141] (by decide +kernel) (by decide +kernel)
set_option maxRecDepth 20000 in
theorem gX12_readRoom_X12_told : GoodIn wsX12_readRoom (wsV RX12 187 RX12 yX12_told wsX12_told) := goodIn_app (goodIn_of _ (by decide +kernel)) ggX12_readRoom_X12_told
set_option maxRecDepth 20000 in
theorem ggX12_readRoom_X12_number : GoodIn wsX12_readRoom wsX12_number := goodIn_r _ [107, 19, 85, 23, 24, 25, 5, 26, 27, 99, 100, 101, 102, 21, 103, 96, 97, 98, 77, 78, 79, 80, 20, 81, 82, 83, 84, 86, 87, 88, 89, 90, 91, 92, 93, 94, 95, 22, 108, 109, 110, 111, 112, 113, 114, 115, 116, 117, 118, 119, 120, 121, 122, 123, 124, 125, 126, 127, 128, 129, 130, 131, 132, 133, 134, 135, 136, 137, 138, 139, 140, 141] (by decide +kernel) (by decide +kernel)
set_option maxRecDepth 20000 in
theorem gX12_readRoom_X12_number : GoodIn wsX12_readRoom (wsV RX12 154 RX12 yX12_number wsX12_number) := goodIn_app (goodIn_of _ (by decide +kernel)) ggX12_readRoom_X12_number
set_option maxRecDepth 20000 in
theorem ggX12_readRoom_X12_takes : GoodIn wsX12_readRoom wsX12_takes := goodIn_r _ [14, 15, 16, 17, 5, 18, 19, 20, 21, 22, 23, 24, 25, 26, 27, 28, 29, 30, 31, 32, 33, 34, 35, 36, 37, 38, 39, 40, 41, 42, 43, 44, 45, 46, 47, 48, 49, 50, 51, 52, 53, 54, 55, 56, 57, 58, 59, 60, 61, 62, 63, 64, 65, 66, 67, 68, 69, 70, 71, 72, 73, 74, 75, 76, 77, 78, 79, 80, 81, 82, 83, 84, 85, 86, 87, 88, 89, 90, 91, 92, 93, 94, 95, 96, 97, 98, 108, 109, 110, 111, 112, 113, 114, 115, 116, 117, 118, 119, 120, 121, 122, 123, 124, 125, 126, 127, 128, 129, 130, 131, 132, 133, 134, 135, 136, 137, 138, 139, 140, 141] (by decide +kernel) (by decide +kernel)
set_option maxRecDepth 20000 in
theorem gX12_readRoom_X12_takes : GoodIn wsX12_readRoom (wsV RX12 143 RX12 yX12_takes wsX12_takes) := goodIn_app (goodIn_of _ (by decide +kernel)) ggX12_readRoom_X12_takes
set_option maxRecDepth 20000 in
theorem ggX12_readRoom_X12_good : GoodIn wsX12_readRoom wsX12_good := goodIn_r _ [26, 27, 108, 109, 110, 111, 112, 113, 114, 115, 116, 117, 118, 119, 120, 121, 122, 123, 124, 125, 126, 127, 128, 129, 130, 131, 132, 133, 134, 135, 136, 137, 138, 139, 140, 141] (by decide +kernel) (by decide +kernel)
set_option maxRecDepth 20000 in
theorem gX12_readRoom_X12_good : GoodIn wsX12_readRoom (wsV RX12 122 RX12 yX12_good wsX12_good) := goodIn_app (goodIn_of _ (by decide +kernel)) ggX12_readRoom_X12_good
theorem dX12_readRoom_0 : decode cX12_readRoom 0 = .ok (.sipush 314, 3) := by decide +kernel
theorem dX12_readRoom_3 : decode cX12_readRoom 3 = .ok (.iconst 5, 1) := by decide +kernel
theorem dX12_readRoom_4 : decode cX12_readRoom 4 = .ok (.aload_n 0, 1) := by decide +kernel
theorem dX12_readRoom_5 : decode cX12_readRoom 5 = .ok (.getfield 34, 3) := by decide +kernel
theorem dX12_readRoom_8 : decode cX12_readRoom 8 = .ok (.iconst 3, 1) := by decide +kernel
theorem dX12_readRoom_9 : decode cX12_readRoom 9 = .ok (.iaload, 1) := by decide +kernel
theorem dX12_readRoom_10 : decode cX12_readRoom 10 = .ok (.imul, 1) := by decide +kernel
theorem dX12_readRoom_11 : decode cX12_readRoom 11 = .ok (.iadd, 1) := by decide +kernel
theorem dX12_readRoom_12 : decode cX12_readRoom 12 = .ok (.istore_n 1, 1) := by decide +kernel
theorem dX12_readRoom_13 : decode cX12_readRoom 13 = .ok (.aload_n 0, 1) := by decide +kernel
theorem dX12_readRoom_14 : decode cX12_readRoom 14 = .ok (.getfield 34, 3) := by decide +kernel
theorem dX12_readRoom_17 : decode cX12_readRoom 17 = .ok (.iload_n 1, 1) := by decide +kernel
theorem dX12_readRoom_18 : decode cX12_readRoom 18 = .ok (.aload_n 0, 1) := by decide +kernel
theorem dX12_readRoom_19 : decode cX12_readRoom 19 = .ok (.ldc 220, 2) := by decide +kernel
theorem dX12_readRoom_21 : decode cX12_readRoom 21 = .ok (.iconst 0, 1) := by decide +kernel
theorem dX12_readRoom_22 : decode cX12_readRoom 22 = .ok (.sipush 999, 3) := by decide +kernel
theorem dX12_readRoom_25 : decode cX12_readRoom 25 = .ok (.invokevirtual 187, 3) := by decide +kernel
theorem dX12_readRoom_28 : decode cX12_readRoom 28 = .ok (.iastore, 1) := by decide +kernel
theorem dX12_readRoom_29 : decode cX12_readRoom 29 = .ok (.aload_n 0, 1) := by decide +kernel
theorem dX12_readRoom_30 : decode cX12_readRoom 30 = .ok (.getfield 34, 3) := by decide +kernel
theorem dX12_readRoom_33 : decode cX12_readRoom 33 = .ok (.iload_n 1, 1) := by decide +kernel
theorem dX12_readRoom_34 : decode cX12_readRoom 34 = .ok (.iconst 1, 1) := by decide +kernel
theorem dX12_readRoom_35 : decode cX12_readRoom 35 = .ok (.iadd, 1) := by decide +kernel
theorem dX12_readRoom_36 : decode cX12_readRoom 36 = .ok (.aload_n 0, 1) := by decide +kernel
theorem dX12_readRoom_37 : decode cX12_readRoom 37 = .ok (.iconst 0, 1) := by decide +kernel
theorem dX12_readRoom_38 : decode cX12_readRoom 38 = .ok (.sipush 500, 3) := by decide +kernel
theorem dX12_readRoom_41 : decode cX12_readRoom 41 = .ok (.invokevirtual 154, 3) := by decide +kernel
theorem dX12_readRoom_44 : decode cX12_readRoom 44 = .ok (.iastore, 1) := by decide +kernel
theorem dX12_readRoom_45 : decode cX12_readRoom 45 = .ok (.aload_n 0, 1) := by decide +kernel
theorem dX12_readRoom_46 : decode cX12_readRoom 46 = .ok (.getfield 34, 3) := by decide +kernel
theorem dX12_readRoom_49 : decode cX12_readRoom 49 = .ok (.iload_n 1, 1) := by decide +kernel
theorem dX12_readRoom_50 : decode cX12_readRoom 50 = .ok (.iconst 2, 1) := by decide +kernel
theorem dX12_readRoom_51 : decode cX12_readRoom 51 = .ok (.iadd, 1) := by decide +kernel
theorem dX12_readRoom_52 : decode cX12_readRoom 52 = .ok (.aload_n 0, 1) := by decide +kernel
theorem dX12_readRoom_53 : decode cX12_readRoom 53 = .ok (.ldc 229, 2) := by decide +kernel
theorem dX12_readRoom_55 : decode cX12_readRoom 55 = .ok (.iconst 0, 1) := by decide +kernel
theorem dX12_readRoom_56 : decode cX12_readRoom 56 = .ok (.sipush 999, 3) := by decide +kernel
theorem dX12_readRoom_59 : decode cX12_readRoom 59 = .ok (.invokevirtual 187, 3) := by decide +kernel
theorem dX12_readRoom_62 : decode cX12_readRoom 62 = .ok (.iastore, 1) := by decide +kernel
theorem dX12_readRoom_63 : decode cX12_readRoom 63 = .ok (.aload_n 0, 1) := by decide +kernel
theorem dX12_readRoom_64 : decode cX12_readRoom 64 = .ok (.getfield 34, 3) := by decide +kernel
theorem dX12_readRoom_67 : decode cX12_readRoom 67 = .ok (.iload_n 1, 1) := by decide +kernel
theorem dX12_readRoom_68 : decode cX12_readRoom 68 = .ok (.iconst 3, 1) := by decide +kernel
theorem dX12_readRoom_69 : decode cX12_readRoom 69 = .ok (.iadd, 1) := by decide +kernel
theorem dX12_readRoom_70 : decode cX12_readRoom 70 = .ok (.aload_n 0, 1) := by decide +kernel
theorem dX12_readRoom_71 : decode cX12_readRoom 71 = .ok (.ldc 231, 2) := by decide +kernel
theorem dX12_readRoom_73 : decode cX12_readRoom 73 = .ok (.iconst 0, 1) := by decide +kernel
theorem dX12_readRoom_74 : decode cX12_readRoom 74 = .ok (.sipush 999, 3) := by decide +kernel
theorem dX12_readRoom_77 : decode cX12_readRoom 77 = .ok (.invokevirtual 187, 3) := by decide +kernel
theorem dX12_readRoom_80 : decode cX12_readRoom 80 = .ok (.iastore, 1) := by decide +kernel
theorem dX12_readRoom_81 : decode cX12_readRoom 81 = .ok (.aload_n 0, 1) := by decide +kernel
theorem dX12_readRoom_82 : decode cX12_readRoom 82 = .ok (.getfield 34, 3) := by decide +kernel
theorem dX12_readRoom_85 : decode cX12_readRoom 85 = .ok (.iload_n 1, 1) := by decide +kernel
theorem dX12_readRoom_86 : decode cX12_readRoom 86 = .ok (.iconst 4, 1) := by decide +kernel
theorem dX12_readRoom_87 : decode cX12_readRoom 87 = .ok (.iadd, 1) := by decide +kernel
theorem dX12_readRoom_88 : decode cX12_readRoom 88 = .ok (.aload_n 0, 1) := by decide +kernel
theorem dX12_readRoom_89 : decode cX12_readRoom 89 = .ok (.ldc 233, 2) := by decide +kernel
theorem dX12_readRoom_91 : decode cX12_readRoom 91 = .ok (.invokevirtual 143, 3) := by decide +kernel
theorem dX12_readRoom_94 : decode cX12_readRoom 94 = .ok (.ifCond .eq 7, 3) := by decide +kernel
theorem dX12_readRoom_97 : decode cX12_readRoom 97 = .ok (.iconst 1, 1) := by decide +kernel
theorem dX12_readRoom_98 : decode cX12_readRoom 98 = .ok (.goto 4, 3) := by decide +kernel
theorem dX12_readRoom_101 : decode cX12_readRoom 101 = .ok (.iconst 0, 1) := by decide +kernel
theorem dX12_readRoom_102 : decode cX12_readRoom 102 = .ok (.iastore, 1) := by decide +kernel
theorem dX12_readRoom_103 : decode cX12_readRoom 103 = .ok (.aload_n 0, 1) := by decide +kernel
theorem dX12_readRoom_104 : decode cX12_readRoom 104 = .ok (.invokevirtual 122, 3) := by decide +kernel
theorem dX12_readRoom_107 : decode cX12_readRoom 107 = .ok (.ifCond .eq 13, 3) := by decide +kernel
theorem dX12_readRoom_110 : decode cX12_readRoom 110 = .ok (.aload_n 0, 1) := by decide +kernel
theorem dX12_readRoom_111 : decode cX12_readRoom 111 = .ok (.getfield 34, 3) := by decide +kernel
theorem dX12_readRoom_114 : decode cX12_readRoom 114 = .ok (.iconst 3, 1) := by decide +kernel
theorem dX12_readRoom_115 : decode cX12_readRoom 115 = .ok (.dup2, 1) := by decide +kernel
theorem dX12_readRoom_116 : decode cX12_readRoom 116 = .ok (.iaload, 1) := by decide +kernel
theorem dX12_readRoom_117 : decode cX12_readRoom 117 = .ok (.iconst 1, 1) := by decide +kernel
theorem dX12_readRoom_118 : decode cX12_readRoom 118 = .ok (.iadd, 1) := by decide +kernel
theorem dX12_readRoom_119 : decode cX12_readRoom 119 = .ok (.iastore, 1) := by decide +kernel
theorem dX12_readRoom_120 : decode cX12_readRoom 120 = .ok (.return_, 1) := by decide +kernel
set_option maxRecDepth 20000 in
theorem ggX12_readPerson_X12_needsWord : GoodIn wsX12_readPerson wsX12_needsWord := goodIn_r _ [6, 7, 8, 9, 5, 10, 11, 12, 13, 14, 15, 16, 17, 18, 19, 20, 21, 22, 23, 24, 25, 26, 27, 28, 29, 30, 31, 32, 33, 34, 35, 36, 37, 38, 39, 40, 41, 42, 43, 44, 45, 46, 47, 48, 49, 50, 51, 52, 53, 54, 55, 56, 57, 58, 59, 60, 61, 62, 63, 64, 65, 66, 67, 68, 69, 70, 71, 72, 73, 74, 75, 76, 77, 78, 79, 80, 81, 82, 83, 84, 85, 86, 87, 88, 89, 90, 91, 92, 93, 94, 95, 96, 97, 98, 99, 120, 121, 122, 123, 124, 125, 126, 127, 128, 129, 130, 131, 132, 133, 134, 135, 136, 137, 138, 139, 140, 141, 142, 143, 144, 145, 146, 147, 148, 149, 150, 151, 152, 153] (by decide +kernel) (by decide +kernel)
set_option maxRecDepth 20000 in
theorem gX12_readPerson_X12_needsWord : GoodIn wsX12_readPerson (wsV RX12 150 RX12 yX12_needsWord wsX12_needsWord) := goodIn_app (goodIn_of _ (by decide +kernel)) ggX12_readPerson_X12_needsWord
set_option maxRecDepth 20000 in
theorem ggX12_readPerson_X12_subjects : GoodIn wsX12_readPerson wsX12_subjects := goodIn_r _ [103, 104, 105, 106, 5, 107, 11, 12, 13, 14, 15, 16, 17, 18, 19, 20, 21, 22, 23, 24, 25, 26, 27, 28, 29, 30, 31, 32, 33, 34, 35, 36, 37, 38, 39, 40, 41, 42, 43, 44, 45, 46, 47, 48, 49, 50, 51, 52, 53, 54, 55, 56, 57, 58, 59, 60, 61, 62, 63, 64, 65, 66, 67, 68, 69, 70, 71, 72, 108, 109, 110, 111, 95, 96, 97, 98, 99, 73, 74, 75, 76, 77, 78, 79, 80, 81, 82, 83, 84, 85, 86, 87, 88, 89, 90, 91, 92, 93, 94, 120, 121, 122, 123, 124, 125, 126, 127, 128, 129, 130, 131, 132, 133, 134, 135, 136, 137, 138, 139, 140, 141, 142, 143, 144, 145, 146, 147, 148, 149, 150, 151, 152, 153] (by decide +kernel) (by decide +kernel)
set_option maxRecDepth 20000 in
theorem gX12_readPerson_X12_subjects : GoodIn wsX12_readPerson (wsV RX12 237 RX12 yX12_subjects wsX12_subjects) := goodIn_app (goodIn_of _ (by decide +kernel)) ggX12_readPerson_X12_subjects
set_option maxRecDepth 20000 in
theorem ggX12_readPerson_X12_takes : GoodIn wsX12_readPerson wsX12_takes := goodIn_r _ [10, 11, 12, 13, 5, 14, 15, 16, 17, 18, 19, 20, 21, 22, 23, 24, 25, 26, 27, 28, 29, 30, 31, 32, 33, 34, 35, 36, 37, 38, 39, 40, 41, 42, 43, 44, 45, 46, 47, 48, 49, 50, 51, 52, 53, 54, 55, 56, 57, 58, 59, 60, 61, 62, 63, 64, 65, 66, 67, 68, 69, 70, 71, 72, 73, 74, 75, 76, 77, 78, 79, 80, 81, 82, 83, 84, 85, 86, 87, 88, 89, 90, 91, 92, 93, 94, 120, 121, 122, 123, 124, 125, 126, 127, 128, 129, 130, 131, 132, 133, 134, 135, 136, 137, 138, 139, 140, 141, 142, 143, 144, 145, 146, 147, 148, 149, 150, 151, 152, 153] (by decide +kernel) (by decide +kernel)
set_option maxRecDepth 20000 in
theorem gX12_readPerson_X12_takes : GoodIn wsX12_readPerson (wsV RX12 143 RX12 yX12_takes wsX12_takes) := goodIn_app (goodIn_of _ (by decide +kernel)) ggX12_readPerson_X12_takes
set_option maxRecDepth 20000 in
theorem ggX12_readPerson_X12_number : GoodIn wsX12_readPerson wsX12_number := goodIn_r _ [115, 15, 81, 19, 20, 21, 5, 22, 23, 95, 96, 97, 98, 17, 99, 92, 93, 94, 73, 74, 75, 76, 16, 77, 78, 79, 80, 82, 83, 84, 85, 86, 87, 88, 89, 90, 91, 18, 120, 121, 122, 123, 124, 125, 126, 127, 128, 129, 130, 131, 132, 133, 134, 135, 136, 137, 138, 139, 140, 141, 142, 143, 144, 145, 146, 147, 148, 149, 150, 151, 152, 153] (by decide +kernel) (by decide +kernel)
set_option maxRecDepth 20000 in
theorem gX12_readPerson_X12_number : GoodIn wsX12_readPerson (wsV RX12 154 RX12 yX12_number wsX12_number) := goodIn_app (goodIn_of _ (by decide +kernel)) ggX12_readPerson_X12_number
set_option maxRecDepth 20000 in
theorem ggX12_readPerson_X12_told : GoodIn wsX12_readPerson wsX12_told := goodIn_r _ [119, 2, 3, 4, 5, 6, 7, 8, 9, 10, 11, 12, 13, 14, 15, 16, 17, 18, 19, 20, 21, 22, 23, 24, 25, 26, 27, 28, 29, 30, 31, 32, 33, 34, 35, 36, 37, 38, 39, 40, 41, 42, 43, 44, 45, 46, 47, 48, 49, 50, 51, 52, 53, 54, 55, 56, 57, 58, 59, 60, 61, 62, 63, 64, 65, 66, 67, 68, 69, 70, 71, 72, 73, 74, 75, 76, 77, 78, 79, 80, 81, 82, 83, 84, 85, 86, 87, 88, 89, 90, 91, 92, 93, 94, 95, 96, 97, 98, 99, 112, 113, 114, 115, 120, 121, 122, 123, 124, 125, 126, 127, 128, 129, 130, 131, 132, 133, 134, 135, 136, 137, 138, 139, 140, 141, 142, 143, 144, 145, 146, 147, 148, 149, 150, 151, 152, 153] (by decide +kernel) (by decide +kernel)
set_option maxRecDepth 20000 in
theorem gX12_readPerson_X12_told : GoodIn wsX12_readPerson (wsV RX12 187 RX12 yX12_told wsX12_told) := goodIn_app (goodIn_of _ (by decide +kernel)) ggX12_readPerson_X12_told
set_option maxRecDepth 20000 in
theorem ggX12_readPerson_X12_good : GoodIn wsX12_readPerson wsX12_good := goodIn_r _ [22, 23, 120, 121, 122, 123, 124, 125, 126, 127, 128, 129, 130, 131, 132, 133, 134, 135, 136, 137, 138, 139, 140, 141, 142, 143, 144, 145, 146, 147, 148, 149, 150, 151, 152, 153] (by decide +kernel) (by decide +kernel)
set_option maxRecDepth 20000 in
theorem gX12_readPerson_X12_good : GoodIn wsX12_readPerson (wsV RX12 122 RX12 yX12_good wsX12_good) := goodIn_app (goodIn_of _ (by decide +kernel)) ggX12_readPerson_X12_good
theorem dX12_readPerson_0 : decode cX12_readPerson 0 = .ok (.sipush 374, 3) := by decide +kernel
theorem dX12_readPerson_3 : decode cX12_readPerson 3 = .ok (.iconst 4, 1) := by decide +kernel
theorem dX12_readPerson_4 : decode cX12_readPerson 4 = .ok (.aload_n 0, 1) := by decide +kernel
theorem dX12_readPerson_5 : decode cX12_readPerson 5 = .ok (.getfield 34, 3) := by decide +kernel
theorem dX12_readPerson_8 : decode cX12_readPerson 8 = .ok (.iconst 4, 1) := by decide +kernel
theorem dX12_readPerson_9 : decode cX12_readPerson 9 = .ok (.iaload, 1) := by decide +kernel
theorem dX12_readPerson_10 : decode cX12_readPerson 10 = .ok (.imul, 1) := by decide +kernel
theorem dX12_readPerson_11 : decode cX12_readPerson 11 = .ok (.iadd, 1) := by decide +kernel
theorem dX12_readPerson_12 : decode cX12_readPerson 12 = .ok (.istore_n 1, 1) := by decide +kernel
theorem dX12_readPerson_13 : decode cX12_readPerson 13 = .ok (.aload_n 0, 1) := by decide +kernel
theorem dX12_readPerson_14 : decode cX12_readPerson 14 = .ok (.ldc 235, 2) := by decide +kernel
theorem dX12_readPerson_16 : decode cX12_readPerson 16 = .ok (.invokevirtual 150, 3) := by decide +kernel
theorem dX12_readPerson_19 : decode cX12_readPerson 19 = .ok (.aload_n 0, 1) := by decide +kernel
theorem dX12_readPerson_20 : decode cX12_readPerson 20 = .ok (.getfield 34, 3) := by decide +kernel
theorem dX12_readPerson_23 : decode cX12_readPerson 23 = .ok (.iload_n 1, 1) := by decide +kernel
theorem dX12_readPerson_24 : decode cX12_readPerson 24 = .ok (.aload_n 0, 1) := by decide +kernel
theorem dX12_readPerson_25 : decode cX12_readPerson 25 = .ok (.invokevirtual 237, 3) := by decide +kernel
theorem dX12_readPerson_28 : decode cX12_readPerson 28 = .ok (.iastore, 1) := by decide +kernel
theorem dX12_readPerson_29 : decode cX12_readPerson 29 = .ok (.aload_n 0, 1) := by decide +kernel
theorem dX12_readPerson_30 : decode cX12_readPerson 30 = .ok (.getfield 34, 3) := by decide +kernel
theorem dX12_readPerson_33 : decode cX12_readPerson 33 = .ok (.iload_n 1, 1) := by decide +kernel
theorem dX12_readPerson_34 : decode cX12_readPerson 34 = .ok (.iconst 1, 1) := by decide +kernel
theorem dX12_readPerson_35 : decode cX12_readPerson 35 = .ok (.iadd, 1) := by decide +kernel
theorem dX12_readPerson_36 : decode cX12_readPerson 36 = .ok (.aload_n 0, 1) := by decide +kernel
theorem dX12_readPerson_37 : decode cX12_readPerson 37 = .ok (.ldc 240, 2) := by decide +kernel
theorem dX12_readPerson_39 : decode cX12_readPerson 39 = .ok (.invokevirtual 143, 3) := by decide +kernel
theorem dX12_readPerson_42 : decode cX12_readPerson 42 = .ok (.ifCond .eq 7, 3) := by decide +kernel
theorem dX12_readPerson_45 : decode cX12_readPerson 45 = .ok (.iconst 1, 1) := by decide +kernel
theorem dX12_readPerson_46 : decode cX12_readPerson 46 = .ok (.goto 4, 3) := by decide +kernel
theorem dX12_readPerson_49 : decode cX12_readPerson 49 = .ok (.iconst 0, 1) := by decide +kernel
theorem dX12_readPerson_50 : decode cX12_readPerson 50 = .ok (.iastore, 1) := by decide +kernel
theorem dX12_readPerson_51 : decode cX12_readPerson 51 = .ok (.aload_n 0, 1) := by decide +kernel
theorem dX12_readPerson_52 : decode cX12_readPerson 52 = .ok (.getfield 34, 3) := by decide +kernel
theorem dX12_readPerson_55 : decode cX12_readPerson 55 = .ok (.iload_n 1, 1) := by decide +kernel
theorem dX12_readPerson_56 : decode cX12_readPerson 56 = .ok (.iconst 1, 1) := by decide +kernel
theorem dX12_readPerson_57 : decode cX12_readPerson 57 = .ok (.iadd, 1) := by decide +kernel
theorem dX12_readPerson_58 : decode cX12_readPerson 58 = .ok (.iaload, 1) := by decide +kernel
theorem dX12_readPerson_59 : decode cX12_readPerson 59 = .ok (.iconst 1, 1) := by decide +kernel
theorem dX12_readPerson_60 : decode cX12_readPerson 60 = .ok (.if_icmp .ne 44, 3) := by decide +kernel
theorem dX12_readPerson_63 : decode cX12_readPerson 63 = .ok (.aload_n 0, 1) := by decide +kernel
theorem dX12_readPerson_64 : decode cX12_readPerson 64 = .ok (.getfield 34, 3) := by decide +kernel
theorem dX12_readPerson_67 : decode cX12_readPerson 67 = .ok (.iload_n 1, 1) := by decide +kernel
theorem dX12_readPerson_68 : decode cX12_readPerson 68 = .ok (.iconst 2, 1) := by decide +kernel
theorem dX12_readPerson_69 : decode cX12_readPerson 69 = .ok (.iadd, 1) := by decide +kernel
theorem dX12_readPerson_70 : decode cX12_readPerson 70 = .ok (.aload_n 0, 1) := by decide +kernel
theorem dX12_readPerson_71 : decode cX12_readPerson 71 = .ok (.iconst 0, 1) := by decide +kernel
theorem dX12_readPerson_72 : decode cX12_readPerson 72 = .ok (.sipush 999, 3) := by decide +kernel
theorem dX12_readPerson_75 : decode cX12_readPerson 75 = .ok (.invokevirtual 154, 3) := by decide +kernel
theorem dX12_readPerson_78 : decode cX12_readPerson 78 = .ok (.iastore, 1) := by decide +kernel
theorem dX12_readPerson_79 : decode cX12_readPerson 79 = .ok (.aload_n 0, 1) := by decide +kernel
theorem dX12_readPerson_80 : decode cX12_readPerson 80 = .ok (.getfield 34, 3) := by decide +kernel
theorem dX12_readPerson_83 : decode cX12_readPerson 83 = .ok (.iload_n 1, 1) := by decide +kernel
theorem dX12_readPerson_84 : decode cX12_readPerson 84 = .ok (.iconst 3, 1) := by decide +kernel
theorem dX12_readPerson_85 : decode cX12_readPerson 85 = .ok (.iadd, 1) := by decide +kernel
theorem dX12_readPerson_86 : decode cX12_readPerson 86 = .ok (.aload_n 0, 1) := by decide +kernel
theorem dX12_readPerson_87 : decode cX12_readPerson 87 = .ok (.ldc 196, 2) := by decide +kernel
theorem dX12_readPerson_89 : decode cX12_readPerson 89 = .ok (.aload_n 0, 1) := by decide +kernel
theorem dX12_readPerson_90 : decode cX12_readPerson 90 = .ok (.getfield 34, 3) := by decide +kernel
theorem dX12_readPerson_93 : decode cX12_readPerson 93 = .ok (.iload_n 1, 1) := by decide +kernel
theorem dX12_readPerson_94 : decode cX12_readPerson 94 = .ok (.iconst 2, 1) := by decide +kernel
theorem dX12_readPerson_95 : decode cX12_readPerson 95 = .ok (.iadd, 1) := by decide +kernel
theorem dX12_readPerson_96 : decode cX12_readPerson 96 = .ok (.iaload, 1) := by decide +kernel
theorem dX12_readPerson_97 : decode cX12_readPerson 97 = .ok (.sipush 999, 3) := by decide +kernel
theorem dX12_readPerson_100 : decode cX12_readPerson 100 = .ok (.invokevirtual 187, 3) := by decide +kernel
theorem dX12_readPerson_103 : decode cX12_readPerson 103 = .ok (.iastore, 1) := by decide +kernel
theorem dX12_readPerson_104 : decode cX12_readPerson 104 = .ok (.aload_n 0, 1) := by decide +kernel
theorem dX12_readPerson_105 : decode cX12_readPerson 105 = .ok (.invokevirtual 122, 3) := by decide +kernel
theorem dX12_readPerson_108 : decode cX12_readPerson 108 = .ok (.ifCond .eq 13, 3) := by decide +kernel
theorem dX12_readPerson_111 : decode cX12_readPerson 111 = .ok (.aload_n 0, 1) := by decide +kernel
theorem dX12_readPerson_112 : decode cX12_readPerson 112 = .ok (.getfield 34, 3) := by decide +kernel
theorem dX12_readPerson_115 : decode cX12_readPerson 115 = .ok (.iconst 4, 1) := by decide +kernel
theorem dX12_readPerson_116 : decode cX12_readPerson 116 = .ok (.dup2, 1) := by decide +kernel
theorem dX12_readPerson_117 : decode cX12_readPerson 117 = .ok (.iaload, 1) := by decide +kernel
theorem dX12_readPerson_118 : decode cX12_readPerson 118 = .ok (.iconst 1, 1) := by decide +kernel
theorem dX12_readPerson_119 : decode cX12_readPerson 119 = .ok (.iadd, 1) := by decide +kernel
theorem dX12_readPerson_120 : decode cX12_readPerson 120 = .ok (.iastore, 1) := by decide +kernel
theorem dX12_readPerson_121 : decode cX12_readPerson 121 = .ok (.return_, 1) := by decide +kernel
set_option maxRecDepth 20000 in
theorem ggX12_readRule_X12_kindHere : GoodIn wsX12_readRule wsX12_kindHere := goodIn_r _ [6, 7, 8, 9, 5, 10, 11, 12, 13, 14, 15, 16, 17, 18, 19, 20, 21, 22, 23, 24, 25, 26, 27, 28, 29, 30, 31, 32, 33, 34, 35, 36, 37, 38, 39, 40, 41, 42, 43, 44, 45, 46, 47, 48, 49, 50, 51, 52, 53, 54, 55, 56, 57, 58, 59, 60, 61, 62, 63, 64, 65, 66, 67, 68, 116, 117, 118, 119, 120, 121, 122, 123, 124, 125, 126, 127, 128, 129, 130, 131, 132, 133, 134, 135, 136, 137, 138, 139, 140, 141, 142, 143, 144, 145, 146, 147, 148, 149] (by decide +kernel) (by decide +kernel)
set_option maxRecDepth 20000 in
theorem gX12_readRule_X12_kindHere : GoodIn wsX12_readRule (wsV RX12 242 RX12 yX12_kindHere wsX12_kindHere) := goodIn_app (goodIn_of _ (by decide +kernel)) ggX12_readRule_X12_kindHere
set_option maxRecDepth 20000 in
theorem ggX12_readRule_X12_taken : GoodIn wsX12_readRule wsX12_taken := goodIn_r _ [72, 73, 74, 75, 5, 76, 19, 13, 77, 15, 16, 17, 18, 78, 79, 80, 81, 12, 11, 82, 83, 84, 85, 86, 87, 88, 89, 90, 91, 92, 93, 94, 95, 96, 14, 97, 98, 99, 116, 117, 118, 119, 120, 121, 122, 123, 124, 125, 126, 127, 128, 129, 130, 131, 132, 133, 134, 135, 136, 137, 138, 139, 140, 141, 142, 143, 144, 145, 146, 147, 148, 149] (by decide +kernel) (by decide +kernel)
set_option maxRecDepth 20000 in
theorem gX12_readRule_X12_taken : GoodIn wsX12_readRule (wsV RX12 182 RX12 yX12_taken wsX12_taken) := goodIn_app (goodIn_of _ (by decide +kernel)) ggX12_readRule_X12_taken
set_option maxRecDepth 20000 in
theorem ggX12_readRule_X12_needsWord : GoodIn wsX12_readRule wsX12_needsWord := goodIn_r _ [103, 104, 105, 106, 5, 107, 7, 8, 9, 10, 11, 12, 13, 14, 15, 16, 17, 18, 19, 20, 21, 22, 23, 24, 25, 26, 27, 28, 29, 30, 31, 32, 33, 34, 35, 36, 37, 38, 39, 40, 41, 42, 43, 44, 45, 46, 47, 48, 49, 50, 51, 52, 53, 54, 55, 56, 57, 58, 59, 60, 61, 62, 63, 64, 65, 66, 67, 68, 78, 79, 80, 81, 82, 83, 84, 85, 86, 87, 88, 89, 90, 91, 92, 93, 94, 95, 96, 97, 98, 99, 73, 74, 75, 76, 77, 116, 117, 118, 119, 120, 121, 122, 123, 124, 125, 126, 127, 128, 129, 130, 131, 132, 133, 134, 135, 136, 137, 138, 139, 140, 141, 142, 143, 144, 145, 146, 147, 148, 149] (by decide +kernel) (by decide +kernel)
set_option maxRecDepth 20000 in
theorem gX12_readRule_X12_needsWord : GoodIn wsX12_readRule (wsV RX12 150 RX12 yX12_needsWord wsX12_needsWord) := goodIn_app (goodIn_of _ (by decide +kernel)) ggX12_readRule_X12_needsWord
set_option maxRecDepth 20000 in
theorem ggX12_readRule_X12_subjects : GoodIn wsX12_readRule wsX12_subjects := goodIn_r _ [111, 112, 113, 114, 5, 115, 7, 8, 9, 10, 11, 12, 13, 14, 15, 16, 17, 18, 19, 20, 21, 22, 23, 24, 25, 26, 27, 28, 29, 30, 31, 32, 33, 34, 35, 36, 37, 38, 39, 40, 41, 42, 43, 44, 45, 46, 47, 48, 49, 50, 51, 52, 53, 54, 55, 56, 57, 58, 59, 60, 61, 62, 63, 64, 65, 66, 67, 68, 69, 70, 71, 72, 73, 74, 75, 76, 77, 78, 79, 80, 81, 82, 83, 84, 85, 86, 87, 88, 89, 90, 91, 92, 93, 94, 95, 96, 97, 98, 99, 116, 117, 118, 119, 120, 121, 122, 123, 124, 125, 126, 127, 128, 129, 130, 131, 132, 133, 134, 135, 136, 137, 138, 139, 140, 141, 142, 143, 144, 145, 146, 147, 148, 149] (by decide +kernel) (by decide +kernel)
set_option maxRecDepth 20000 in
theorem gX12_readRule_X12_subjects : GoodIn wsX12_readRule (wsV RX12 237 RX12 yX12_subjects wsX12_subjects) := goodIn_app (goodIn_of _ (by decide +kernel)) ggX12_readRule_X12_subjects
set_option maxRecDepth 20000 in
theorem ggX12_readRule_X12_good : GoodIn wsX12_readRule wsX12_good := goodIn_r _ [18, 19, 116, 117, 118, 119, 120, 121, 122, 123, 124, 125, 126, 127, 128, 129, 130, 131, 132, 133, 134, 135, 136, 137, 138, 139, 140, 141, 142, 143, 144, 145, 146, 147, 148, 149] (by decide +kernel) (by decide +kernel)
set_option maxRecDepth 20000 in
theorem gX12_readRule_X12_good : GoodIn wsX12_readRule (wsV RX12 122 RX12 yX12_good wsX12_good) := goodIn_app (goodIn_of _ (by decide +kernel)) ggX12_readRule_X12_good
theorem dX12_readRule_0 : decode cX12_readRule 0 = .ok (.aload_n 0, 1) := by decide +kernel
theorem dX12_readRule_1 : decode cX12_readRule 1 = .ok (.aload_n 0, 1) := by decide +kernel
theorem dX12_readRule_2 : decode cX12_readRule 2 = .ok (.invokevirtual 242, 3) := by decide +kernel
theorem dX12_readRule_5 : decode cX12_readRule 5 = .ok (.invokevirtual 182, 3) := by decide +kernel
theorem dX12_readRule_8 : decode cX12_readRule 8 = .ok (.istore_n 1, 1) := by decide +kernel
theorem dX12_readRule_9 : decode cX12_readRule 9 = .ok (.aload_n 0, 1) := by decide +kernel
theorem dX12_readRule_10 : decode cX12_readRule 10 = .ok (.ldc 245, 2) := by decide +kernel
theorem dX12_readRule_12 : decode cX12_readRule 12 = .ok (.invokevirtual 150, 3) := by decide +kernel
theorem dX12_readRule_15 : decode cX12_readRule 15 = .ok (.aload_n 0, 1) := by decide +kernel
theorem dX12_readRule_16 : decode cX12_readRule 16 = .ok (.invokevirtual 237, 3) := by decide +kernel
theorem dX12_readRule_19 : decode cX12_readRule 19 = .ok (.istore_n 2, 1) := by decide +kernel
theorem dX12_readRule_20 : decode cX12_readRule 20 = .ok (.aload_n 0, 1) := by decide +kernel
theorem dX12_readRule_21 : decode cX12_readRule 21 = .ok (.invokevirtual 122, 3) := by decide +kernel
theorem dX12_readRule_24 : decode cX12_readRule 24 = .ok (.ifCond .eq 18, 3) := by decide +kernel
theorem dX12_readRule_27 : decode cX12_readRule 27 = .ok (.aload_n 0, 1) := by decide +kernel
theorem dX12_readRule_28 : decode cX12_readRule 28 = .ok (.getfield 34, 3) := by decide +kernel
theorem dX12_readRule_31 : decode cX12_readRule 31 = .ok (.bipush 9, 2) := by decide +kernel
theorem dX12_readRule_33 : decode cX12_readRule 33 = .ok (.dup2, 1) := by decide +kernel
theorem dX12_readRule_34 : decode cX12_readRule 34 = .ok (.iaload, 1) := by decide +kernel
theorem dX12_readRule_35 : decode cX12_readRule 35 = .ok (.iload_n 2, 1) := by decide +kernel
theorem dX12_readRule_36 : decode cX12_readRule 36 = .ok (.iconst 4, 1) := by decide +kernel
theorem dX12_readRule_37 : decode cX12_readRule 37 = .ok (.iload_n 1, 1) := by decide +kernel
theorem dX12_readRule_38 : decode cX12_readRule 38 = .ok (.imul, 1) := by decide +kernel
theorem dX12_readRule_39 : decode cX12_readRule 39 = .ok (.ishl, 1) := by decide +kernel
theorem dX12_readRule_40 : decode cX12_readRule 40 = .ok (.ior, 1) := by decide +kernel
theorem dX12_readRule_41 : decode cX12_readRule 41 = .ok (.iastore, 1) := by decide +kernel
theorem dX12_readRule_42 : decode cX12_readRule 42 = .ok (.return_, 1) := by decide +kernel
set_option maxRecDepth 20000 in
theorem ggX12_readChange_X12_kindHere : GoodIn wsX12_readChange wsX12_kindHere := goodIn_r _ [6, 7, 8, 9, 5, 10, 11, 12, 13, 14, 15, 16, 17, 18, 19, 20, 21, 22, 23, 24, 25, 26, 27, 28, 29, 30, 31, 32, 33, 34, 35, 36, 37, 38, 39, 40, 41, 42, 43, 44, 45, 46, 47, 48, 49, 50, 51, 52, 53, 54, 55, 56, 57, 58, 59, 60, 61, 62, 63, 64, 65, 66, 67, 68, 124, 125, 126, 127, 128, 129, 130, 131, 132, 133, 134, 135, 136, 137, 138, 139, 140, 141, 142, 143, 144, 145, 146, 147, 148, 149, 150, 151, 152, 153, 154, 155, 156, 157] (by decide +kernel) (by decide +kernel)
set_option maxRecDepth 20000 in
theorem gX12_readChange_X12_kindHere : GoodIn wsX12_readChange (wsV RX12 242 RX12 yX12_kindHere wsX12_kindHere) := goodIn_app (goodIn_of _ (by decide +kernel)) ggX12_readChange_X12_kindHere
set_option maxRecDepth 20000 in
theorem ggX12_readChange_X12_taken : GoodIn wsX12_readChange wsX12_taken := goodIn_r _ [72, 73, 74, 75, 5, 76, 19, 13, 77, 15, 16, 17, 18, 78, 79, 80, 81, 12, 11, 82, 83, 84, 85, 86, 87, 88, 89, 90, 91, 92, 93, 94, 95, 96, 14, 97, 98, 99, 124, 125, 126, 127, 128, 129, 130, 131, 132, 133, 134, 135, 136, 137, 138, 139, 140, 141, 142, 143, 144, 145, 146, 147, 148, 149, 150, 151, 152, 153, 154, 155, 156, 157] (by decide +kernel) (by decide +kernel)
set_option maxRecDepth 20000 in
theorem gX12_readChange_X12_taken : GoodIn wsX12_readChange (wsV RX12 182 RX12 yX12_taken wsX12_taken) := goodIn_app (goodIn_of _ (by decide +kernel)) ggX12_readChange_X12_taken
set_option maxRecDepth 20000 in
theorem ggX12_readChange_X12_told : GoodIn wsX12_readChange wsX12_told := goodIn_r _ [103, 104, 105, 106, 5, 107, 108, 109, 110, 111, 7, 8, 9, 10, 11, 12, 13, 14, 15, 16, 17, 18, 19, 20, 21, 22, 23, 24, 25, 26, 27, 28, 29, 30, 31, 32, 33, 34, 35, 36, 37, 38, 39, 40, 41, 42, 43, 44, 45, 46, 47, 48, 49, 50, 51, 52, 53, 54, 55, 56, 57, 58, 59, 60, 61, 62, 63, 64, 65, 66, 67, 68, 78, 79, 80, 81, 82, 83, 84, 85, 86, 87, 88, 89, 90, 91, 92, 93, 94, 95, 96, 97, 98, 99, 73, 74, 75, 76, 77, 112, 113, 114, 115, 124, 125, 126, 127, 128, 129, 130, 131, 132, 133, 134, 135, 136, 137, 138, 139, 140, 141, 142, 143, 144, 145, 146, 147, 148, 149, 150, 151, 152, 153, 154, 155, 156, 157] (by decide +kernel) (by decide +kernel)
set_option maxRecDepth 20000 in
theorem gX12_readChange_X12_told : GoodIn wsX12_readChange (wsV RX12 187 RX12 yX12_told wsX12_told) := goodIn_app (goodIn_of _ (by decide +kernel)) ggX12_readChange_X12_told
set_option maxRecDepth 20000 in
theorem ggX12_readChange_X12_needsWord : GoodIn wsX12_readChange wsX12_needsWord := goodIn_r _ [107, 108, 109, 110, 5, 111, 7, 8, 9, 10, 11, 12, 13, 14, 15, 16, 17, 18, 19, 20, 21, 22, 23, 24, 25, 26, 27, 28, 29, 30, 31, 32, 33, 34, 35, 36, 37, 38, 39, 40, 41, 42, 43, 44, 45, 46, 47, 48, 49, 50, 51, 52, 53, 54, 55, 56, 57, 58, 59, 60, 61, 62, 63, 64, 65, 66, 67, 68, 78, 79, 80, 81, 82, 83, 84, 85, 86, 87, 88, 89, 90, 91, 92, 93, 94, 95, 96, 97, 98, 99, 73, 74, 75, 76, 77, 124, 125, 126, 127, 128, 129, 130, 131, 132, 133, 134, 135, 136, 137, 138, 139, 140, 141, 142, 143, 144, 145, 146, 147, 148, 149, 150, 151, 152, 153, 154, 155, 156, 157] (by decide +kernel) (by decide +kernel)
set_option maxRecDepth 20000 in
theorem gX12_readChange_X12_needsWord : GoodIn wsX12_readChange (wsV RX12 150 RX12 yX12_needsWord wsX12_needsWord) := goodIn_app (goodIn_of _ (by decide +kernel)) ggX12_readChange_X12_needsWord
set_option maxRecDepth 20000 in
theorem ggX12_readChange_X12_subjects : GoodIn wsX12_readChange wsX12_subjects := goodIn_r _ [119, 120, 121, 122, 5, 123, 7, 8, 9, 10, 11, 12, 13, 14, 15, 16, 17, 18, 19, 20, 21, 22, 23, 24, 25, 26, 27, 28, 29, 30, 31, 32, 33, 34, 35, 36, 37, 38, 39, 40, 41, 42, 43, 44, 45, 46, 47, 48, 49, 50, 51, 52, 53, 54, 55, 56, 57, 58, 59, 60, 61, 62, 63, 64, 65, 66, 67, 68, 69, 70, 71, 72, 73, 74, 75, 76, 77, 78, 79, 80, 81, 82, 83, 84, 85, 86, 87, 88, 89, 90, 91, 92, 93, 94, 95, 96, 97, 98, 99, 124, 125, 126, 127, 128, 129, 130, 131, 132, 133, 134, 135, 136, 137, 138, 139, 140, 141, 142, 143, 144, 145, 146, 147, 148, 149, 150, 151, 152, 153, 154, 155, 156, 157] (by decide +kernel) (by decide +kernel)
set_option maxRecDepth 20000 in
theorem gX12_readChange_X12_subjects : GoodIn wsX12_readChange (wsV RX12 237 RX12 yX12_subjects wsX12_subjects) := goodIn_app (goodIn_of _ (by decide +kernel)) ggX12_readChange_X12_subjects
set_option maxRecDepth 20000 in
theorem ggX12_readChange_X12_good : GoodIn wsX12_readChange wsX12_good := goodIn_r _ [18, 19, 124, 125, 126, 127, 128, 129, 130, 131, 132, 133, 134, 135, 136, 137, 138, 139, 140, 141, 142, 143, 144, 145, 146, 147, 148, 149, 150, 151, 152, 153, 154, 155, 156, 157] (by decide +kernel) (by decide +kernel)
set_option maxRecDepth 20000 in
theorem gX12_readChange_X12_good : GoodIn wsX12_readChange (wsV RX12 122 RX12 yX12_good wsX12_good) := goodIn_app (goodIn_of _ (by decide +kernel)) ggX12_readChange_X12_good
theorem dX12_readChange_0 : decode cX12_readChange 0 = .ok (.sipush 422, 3) := by decide +kernel
theorem dX12_readChange_3 : decode cX12_readChange 3 = .ok (.iconst 3, 1) := by decide +kernel
theorem dX12_readChange_4 : decode cX12_readChange 4 = .ok (.aload_n 0, 1) := by decide +kernel
theorem dX12_readChange_5 : decode cX12_readChange 5 = .ok (.getfield 34, 3) := by decide +kernel
theorem dX12_readChange_8 : decode cX12_readChange 8 = .ok (.iconst 5, 1) := by decide +kernel
theorem dX12_readChange_9 : decode cX12_readChange 9 = .ok (.iaload, 1) := by decide +kernel
theorem dX12_readChange_10 : decode cX12_readChange 10 = .ok (.imul, 1) := by decide +kernel
theorem dX12_readChange_11 : decode cX12_readChange 11 = .ok (.iadd, 1) := by decide +kernel
theorem dX12_readChange_12 : decode cX12_readChange 12 = .ok (.istore_n 1, 1) := by decide +kernel
theorem dX12_readChange_13 : decode cX12_readChange 13 = .ok (.aload_n 0, 1) := by decide +kernel
theorem dX12_readChange_14 : decode cX12_readChange 14 = .ok (.getfield 34, 3) := by decide +kernel
theorem dX12_readChange_17 : decode cX12_readChange 17 = .ok (.iload_n 1, 1) := by decide +kernel
theorem dX12_readChange_18 : decode cX12_readChange 18 = .ok (.aload_n 0, 1) := by decide +kernel
theorem dX12_readChange_19 : decode cX12_readChange 19 = .ok (.aload_n 0, 1) := by decide +kernel
theorem dX12_readChange_20 : decode cX12_readChange 20 = .ok (.invokevirtual 242, 3) := by decide +kernel
theorem dX12_readChange_23 : decode cX12_readChange 23 = .ok (.invokevirtual 182, 3) := by decide +kernel
theorem dX12_readChange_26 : decode cX12_readChange 26 = .ok (.iastore, 1) := by decide +kernel
theorem dX12_readChange_27 : decode cX12_readChange 27 = .ok (.aload_n 0, 1) := by decide +kernel
theorem dX12_readChange_28 : decode cX12_readChange 28 = .ok (.getfield 34, 3) := by decide +kernel
theorem dX12_readChange_31 : decode cX12_readChange 31 = .ok (.iload_n 1, 1) := by decide +kernel
theorem dX12_readChange_32 : decode cX12_readChange 32 = .ok (.iconst 1, 1) := by decide +kernel
theorem dX12_readChange_33 : decode cX12_readChange 33 = .ok (.iadd, 1) := by decide +kernel
theorem dX12_readChange_34 : decode cX12_readChange 34 = .ok (.aload_n 0, 1) := by decide +kernel
theorem dX12_readChange_35 : decode cX12_readChange 35 = .ok (.ldc 229, 2) := by decide +kernel
theorem dX12_readChange_37 : decode cX12_readChange 37 = .ok (.iconst 0, 1) := by decide +kernel
theorem dX12_readChange_38 : decode cX12_readChange 38 = .ok (.sipush 999, 3) := by decide +kernel
theorem dX12_readChange_41 : decode cX12_readChange 41 = .ok (.invokevirtual 187, 3) := by decide +kernel
theorem dX12_readChange_44 : decode cX12_readChange 44 = .ok (.iastore, 1) := by decide +kernel
theorem dX12_readChange_45 : decode cX12_readChange 45 = .ok (.aload_n 0, 1) := by decide +kernel
theorem dX12_readChange_46 : decode cX12_readChange 46 = .ok (.ldc 247, 2) := by decide +kernel
theorem dX12_readChange_48 : decode cX12_readChange 48 = .ok (.invokevirtual 150, 3) := by decide +kernel
theorem dX12_readChange_51 : decode cX12_readChange 51 = .ok (.aload_n 0, 1) := by decide +kernel
theorem dX12_readChange_52 : decode cX12_readChange 52 = .ok (.getfield 34, 3) := by decide +kernel
theorem dX12_readChange_55 : decode cX12_readChange 55 = .ok (.iload_n 1, 1) := by decide +kernel
theorem dX12_readChange_56 : decode cX12_readChange 56 = .ok (.iconst 2, 1) := by decide +kernel
theorem dX12_readChange_57 : decode cX12_readChange 57 = .ok (.iadd, 1) := by decide +kernel
theorem dX12_readChange_58 : decode cX12_readChange 58 = .ok (.aload_n 0, 1) := by decide +kernel
