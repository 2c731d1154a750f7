theorem dX11_firstWithout_102 : decode cX11_firstWithout 102 = .ok (.iload 5, 2) := by decide +kernel
theorem dX11_firstWithout_104 : decode cX11_firstWithout 104 = .ok (.bipush 100, 2) := by decide +kernel
theorem dX11_firstWithout_106 : decode cX11_firstWithout 106 = .ok (.iadd, 1) := by decide +kernel
theorem dX11_firstWithout_107 : decode cX11_firstWithout 107 = .ok (.iload_n 1, 1) := by decide +kernel
theorem dX11_firstWithout_108 : decode cX11_firstWithout 108 = .ok (.if_icmp .eq 25, 3) := by decide +kernel
theorem dX11_firstWithout_111 : decode cX11_firstWithout 111 = .ok (.aload_n 0, 1) := by decide +kernel
theorem dX11_firstWithout_112 : decode cX11_firstWithout 112 = .ok (.getfield 62, 3) := by decide +kernel
theorem dX11_firstWithout_115 : decode cX11_firstWithout 115 = .ok (.getfield 163, 3) := by decide +kernel
theorem dX11_firstWithout_118 : decode cX11_firstWithout 118 = .ok (.aload_n 0, 1) := by decide +kernel
theorem dX11_firstWithout_119 : decode cX11_firstWithout 119 = .ok (.getfield 62, 3) := by decide +kernel
theorem dX11_firstWithout_122 : decode cX11_firstWithout 122 = .ok (.iload 5, 2) := by decide +kernel
theorem dX11_firstWithout_124 : decode cX11_firstWithout 124 = .ok (.invokevirtual 183, 3) := by decide +kernel
theorem dX11_firstWithout_127 : decode cX11_firstWithout 127 = .ok (.invokevirtual 186, 3) := by decide +kernel
theorem dX11_firstWithout_130 : decode cX11_firstWithout 130 = .ok (.goto 4, 3) := by decide +kernel
theorem dX11_firstWithout_133 : decode cX11_firstWithout 133 = .ok (.iconst (-1), 1) := by decide +kernel
theorem dX11_firstWithout_134 : decode cX11_firstWithout 134 = .ok (.istore 6, 2) := by decide +kernel
theorem dX11_firstWithout_136 : decode cX11_firstWithout 136 = .ok (.iload 6, 2) := by decide +kernel
theorem dX11_firstWithout_138 : decode cX11_firstWithout 138 = .ok (.iconst (-1), 1) := by decide +kernel
theorem dX11_firstWithout_139 : decode cX11_firstWithout 139 = .ok (.if_icmp .eq 26, 3) := by decide +kernel
theorem dX11_firstWithout_142 : decode cX11_firstWithout 142 = .ok (.iload 4, 2) := by decide +kernel
theorem dX11_firstWithout_144 : decode cX11_firstWithout 144 = .ok (.iconst (-1), 1) := by decide +kernel
theorem dX11_firstWithout_145 : decode cX11_firstWithout 145 = .ok (.if_icmp .eq 10, 3) := by decide +kernel
theorem dX11_firstWithout_148 : decode cX11_firstWithout 148 = .ok (.iload 6, 2) := by decide +kernel
theorem dX11_firstWithout_150 : decode cX11_firstWithout 150 = .ok (.iload 4, 2) := by decide +kernel
theorem dX11_firstWithout_152 : decode cX11_firstWithout 152 = .ok (.if_icmp .ge 13, 3) := by decide +kernel
theorem dX11_firstWithout_155 : decode cX11_firstWithout 155 = .ok (.iload 6, 2) := by decide +kernel
theorem dX11_firstWithout_157 : decode cX11_firstWithout 157 = .ok (.istore 4, 2) := by decide +kernel
theorem dX11_firstWithout_159 : decode cX11_firstWithout 159 = .ok (.iload 5, 2) := by decide +kernel
theorem dX11_firstWithout_161 : decode cX11_firstWithout 161 = .ok (.bipush 100, 2) := by decide +kernel
theorem dX11_firstWithout_163 : decode cX11_firstWithout 163 = .ok (.iadd, 1) := by decide +kernel
theorem dX11_firstWithout_164 : decode cX11_firstWithout 164 = .ok (.istore_n 3, 1) := by decide +kernel
theorem dX11_firstWithout_165 : decode cX11_firstWithout 165 = .ok (.iinc 5 1, 3) := by decide +kernel
theorem dX11_firstWithout_168 : decode cX11_firstWithout 168 = .ok (.goto (-78), 3) := by decide +kernel
theorem dX11_firstWithout_171 : decode cX11_firstWithout 171 = .ok (.iload_n 2, 1) := by decide +kernel
theorem dX11_firstWithout_172 : decode cX11_firstWithout 172 = .ok (.lookupswitch 33 #[(0, 28), (1, 30)], 28) := by decide +kernel
theorem dX11_firstWithout_200 : decode cX11_firstWithout 200 = .ok (.iload_n 3, 1) := by decide +kernel
theorem dX11_firstWithout_201 : decode cX11_firstWithout 201 = .ok (.ireturn, 1) := by decide +kernel
theorem dX11_firstWithout_202 : decode cX11_firstWithout 202 = .ok (.iload 4, 2) := by decide +kernel
theorem dX11_firstWithout_204 : decode cX11_firstWithout 204 = .ok (.ireturn, 1) := by decide +kernel
theorem dX11_firstWithout_205 : decode cX11_firstWithout 205 = .ok (.iconst (-1), 1) := by decide +kernel
theorem dX11_firstWithout_206 : decode cX11_firstWithout 206 = .ok (.ireturn, 1) := by decide +kernel
theorem dX12_in_0 : decode cX12_in 0 = .ok (.lload_n 0, 1) := by decide +kernel
theorem dX12_in_1 : decode cX12_in 1 = .ok (.lload_n 2, 1) := by decide +kernel
theorem dX12_in_2 : decode cX12_in 2 = .ok (.lcmp, 1) := by decide +kernel
theorem dX12_in_3 : decode cX12_in 3 = .ok (.ifCond .lt 14, 3) := by decide +kernel
theorem dX12_in_6 : decode cX12_in 6 = .ok (.lload_n 0, 1) := by decide +kernel
theorem dX12_in_7 : decode cX12_in 7 = .ok (.lload 4, 2) := by decide +kernel
theorem dX12_in_9 : decode cX12_in 9 = .ok (.lcmp, 1) := by decide +kernel
theorem dX12_in_10 : decode cX12_in 10 = .ok (.ifCond .gt 7, 3) := by decide +kernel
theorem dX12_in_13 : decode cX12_in 13 = .ok (.iconst 1, 1) := by decide +kernel
theorem dX12_in_14 : decode cX12_in 14 = .ok (.goto 4, 3) := by decide +kernel
theorem dX12_in_17 : decode cX12_in 17 = .ok (.iconst 0, 1) := by decide +kernel
theorem dX12_in_18 : decode cX12_in 18 = .ok (.ireturn, 1) := by decide +kernel
theorem dX12_ones_0 : decode cX12_ones 0 = .ok (.iconst 0, 1) := by decide +kernel
theorem dX12_ones_1 : decode cX12_ones 1 = .ok (.istore_n 1, 1) := by decide +kernel
theorem dX12_ones_2 : decode cX12_ones 2 = .ok (.iconst 0, 1) := by decide +kernel
theorem dX12_ones_3 : decode cX12_ones 3 = .ok (.istore_n 2, 1) := by decide +kernel
theorem dX12_ones_4 : decode cX12_ones 4 = .ok (.iload_n 2, 1) := by decide +kernel
theorem dX12_ones_5 : decode cX12_ones 5 = .ok (.bipush 16, 2) := by decide +kernel
theorem dX12_ones_7 : decode cX12_ones 7 = .ok (.if_icmp .ge 17, 3) := by decide +kernel
theorem dX12_ones_10 : decode cX12_ones 10 = .ok (.iload_n 1, 1) := by decide +kernel
theorem dX12_ones_11 : decode cX12_ones 11 = .ok (.iload_n 0, 1) := by decide +kernel
theorem dX12_ones_12 : decode cX12_ones 12 = .ok (.iload_n 2, 1) := by decide +kernel
theorem dX12_ones_13 : decode cX12_ones 13 = .ok (.ishr, 1) := by decide +kernel
theorem dX12_ones_14 : decode cX12_ones 14 = .ok (.iconst 1, 1) := by decide +kernel
theorem dX12_ones_15 : decode cX12_ones 15 = .ok (.iand, 1) := by decide +kernel
theorem dX12_ones_16 : decode cX12_ones 16 = .ok (.iadd, 1) := by decide +kernel
theorem dX12_ones_17 : decode cX12_ones 17 = .ok (.istore_n 1, 1) := by decide +kernel
theorem dX12_ones_18 : decode cX12_ones 18 = .ok (.iinc 2 1, 3) := by decide +kernel
theorem dX12_ones_21 : decode cX12_ones 21 = .ok (.goto (-17), 3) := by decide +kernel
theorem dX12_ones_24 : decode cX12_ones 24 = .ok (.iload_n 1, 1) := by decide +kernel
theorem dX12_ones_25 : decode cX12_ones 25 = .ok (.ireturn, 1) := by decide +kernel
theorem dX12_init_0 : decode cX12_init 0 = .ok (.aload_n 0, 1) := by decide +kernel
theorem dX12_init_1 : decode cX12_init 1 = .ok (.invokespecial 7, 3) := by decide +kernel
theorem dX12_init_4 : decode cX12_init 4 = .ok (.aload_n 0, 1) := by decide +kernel
theorem dX12_init_5 : decode cX12_init 5 = .ok (.sipush 2482, 3) := by decide +kernel
theorem dX12_init_8 : decode cX12_init 8 = .ok (.newarray .int, 2) := by decide +kernel
theorem dX12_init_10 : decode cX12_init 10 = .ok (.putfield 13, 3) := by decide +kernel
theorem dX12_init_13 : decode cX12_init 13 = .ok (.aload_n 0, 1) := by decide +kernel
theorem dX12_init_14 : decode cX12_init 14 = .ok (.sipush 7446, 3) := by decide +kernel
theorem dX12_init_17 : decode cX12_init 17 = .ok (.newarray .int, 2) := by decide +kernel
theorem dX12_init_19 : decode cX12_init 19 = .ok (.putfield 17, 3) := by decide +kernel
theorem dX12_init_22 : decode cX12_init 22 = .ok (.aload_n 0, 1) := by decide +kernel
theorem dX12_init_23 : decode cX12_init 23 = .ok (.iconst 3, 1) := by decide +kernel
theorem dX12_init_24 : decode cX12_init 24 = .ok (.newarray .boolean, 2) := by decide +kernel
theorem dX12_init_26 : decode cX12_init 26 = .ok (.putfield 20, 3) := by decide +kernel
theorem dX12_init_29 : decode cX12_init 29 = .ok (.aload_n 0, 1) := by decide +kernel
theorem dX12_init_30 : decode cX12_init 30 = .ok (.sipush 1600, 3) := by decide +kernel
theorem dX12_init_33 : decode cX12_init 33 = .ok (.newarray .byte, 2) := by decide +kernel
theorem dX12_init_35 : decode cX12_init 35 = .ok (.putfield 24, 3) := by decide +kernel
theorem dX12_init_38 : decode cX12_init 38 = .ok (.aload_n 0, 1) := by decide +kernel
theorem dX12_init_39 : decode cX12_init 39 = .ok (.iconst 5, 1) := by decide +kernel
theorem dX12_init_40 : decode cX12_init 40 = .ok (.newarray .int, 2) := by decide +kernel
theorem dX12_init_42 : decode cX12_init 42 = .ok (.putfield 28, 3) := by decide +kernel
theorem dX12_init_45 : decode cX12_init 45 = .ok (.aload_n 0, 1) := by decide +kernel
theorem dX12_init_46 : decode cX12_init 46 = .ok (.iconst (-1), 1) := by decide +kernel
theorem dX12_init_47 : decode cX12_init 47 = .ok (.putfield 31, 3) := by decide +kernel
theorem dX12_init_50 : decode cX12_init 50 = .ok (.aload_n 0, 1) := by decide +kernel
theorem dX12_init_51 : decode cX12_init 51 = .ok (.sipush 2482, 3) := by decide +kernel
theorem dX12_init_54 : decode cX12_init 54 = .ok (.newarray .int, 2) := by decide +kernel
theorem dX12_init_56 : decode cX12_init 56 = .ok (.putfield 34, 3) := by decide +kernel
theorem dX12_init_59 : decode cX12_init 59 = .ok (.aload_n 0, 1) := by decide +kernel
theorem dX12_init_60 : decode cX12_init 60 = .ok (.bipush 8, 2) := by decide +kernel
theorem dX12_init_62 : decode cX12_init 62 = .ok (.newarray .int, 2) := by decide +kernel
theorem dX12_init_64 : decode cX12_init 64 = .ok (.putfield 37, 3) := by decide +kernel
theorem dX12_init_67 : decode cX12_init 67 = .ok (.aload_n 0, 1) := by decide +kernel
theorem dX12_init_68 : decode cX12_init 68 = .ok (.bipush 8, 2) := by decide +kernel
theorem dX12_init_70 : decode cX12_init 70 = .ok (.newarray .int, 2) := by decide +kernel
theorem dX12_init_72 : decode cX12_init 72 = .ok (.putfield 40, 3) := by decide +kernel
theorem dX12_init_75 : decode cX12_init 75 = .ok (.aload_n 0, 1) := by decide +kernel
theorem dX12_init_76 : decode cX12_init 76 = .ok (.bipush 8, 2) := by decide +kernel
theorem dX12_init_78 : decode cX12_init 78 = .ok (.newarray .int, 2) := by decide +kernel
theorem dX12_init_80 : decode cX12_init 80 = .ok (.putfield 43, 3) := by decide +kernel
theorem dX12_init_83 : decode cX12_init 83 = .ok (.aload_n 0, 1) := by decide +kernel
theorem dX12_init_84 : decode cX12_init 84 = .ok (.bipush 8, 2) := by decide +kernel
theorem dX12_init_86 : decode cX12_init 86 = .ok (.newarray .int, 2) := by decide +kernel
theorem dX12_init_88 : decode cX12_init 88 = .ok (.putfield 46, 3) := by decide +kernel
theorem dX12_init_91 : decode cX12_init 91 = .ok (.aload_n 0, 1) := by decide +kernel
theorem dX12_init_92 : decode cX12_init 92 = .ok (.sipush 2000, 3) := by decide +kernel
theorem dX12_init_95 : decode cX12_init 95 = .ok (.newarray .int, 2) := by decide +kernel
theorem dX12_init_97 : decode cX12_init 97 = .ok (.putfield 49, 3) := by decide +kernel
theorem dX12_init_100 : decode cX12_init 100 = .ok (.aload_n 0, 1) := by decide +kernel
theorem dX12_init_101 : decode cX12_init 101 = .ok (.sipush 1000, 3) := by decide +kernel
theorem dX12_init_104 : decode cX12_init 104 = .ok (.newarray .int, 2) := by decide +kernel
theorem dX12_init_106 : decode cX12_init 106 = .ok (.putfield 52, 3) := by decide +kernel
theorem dX12_init_109 : decode cX12_init 109 = .ok (.aload_n 0, 1) := by decide +kernel
theorem dX12_init_110 : decode cX12_init 110 = .ok (.bipush 17, 2) := by decide +kernel
theorem dX12_init_112 : decode cX12_init 112 = .ok (.newarray .int, 2) := by decide +kernel
theorem dX12_init_114 : decode cX12_init 114 = .ok (.putfield 55, 3) := by decide +kernel
theorem dX12_init_117 : decode cX12_init 117 = .ok (.aload_n 0, 1) := by decide +kernel
theorem dX12_init_118 : decode cX12_init 118 = .ok (.iconst (-1), 1) := by decide +kernel
theorem dX12_init_119 : decode cX12_init 119 = .ok (.putfield 58, 3) := by decide +kernel
theorem dX12_init_122 : decode cX12_init 122 = .ok (.aload_n 0, 1) := by decide +kernel
theorem dX12_init_123 : decode cX12_init 123 = .ok (.iconst 4, 1) := by decide +kernel
theorem dX12_init_124 : decode cX12_init 124 = .ok (.newarray .int, 2) := by decide +kernel
theorem dX12_init_126 : decode cX12_init 126 = .ok (.dup, 1) := by decide +kernel
theorem dX12_init_127 : decode cX12_init 127 = .ok (.iconst 0, 1) := by decide +kernel
theorem dX12_init_128 : decode cX12_init 128 = .ok (.iconst (-1), 1) := by decide +kernel
theorem dX12_init_129 : decode cX12_init 129 = .ok (.iastore, 1) := by decide +kernel
theorem dX12_init_130 : decode cX12_init 130 = .ok (.dup, 1) := by decide +kernel
theorem dX12_init_131 : decode cX12_init 131 = .ok (.iconst 1, 1) := by decide +kernel
theorem dX12_init_132 : decode cX12_init 132 = .ok (.iconst (-1), 1) := by decide +kernel
theorem dX12_init_133 : decode cX12_init 133 = .ok (.iastore, 1) := by decide +kernel
theorem dX12_init_134 : decode cX12_init 134 = .ok (.dup, 1) := by decide +kernel
theorem dX12_init_135 : decode cX12_init 135 = .ok (.iconst 2, 1) := by decide +kernel
theorem dX12_init_136 : decode cX12_init 136 = .ok (.iconst (-1), 1) := by decide +kernel
theorem dX12_init_137 : decode cX12_init 137 = .ok (.iastore, 1) := by decide +kernel
theorem dX12_init_138 : decode cX12_init 138 = .ok (.dup, 1) := by decide +kernel
theorem dX12_init_139 : decode cX12_init 139 = .ok (.iconst 3, 1) := by decide +kernel
theorem dX12_init_140 : decode cX12_init 140 = .ok (.iconst (-1), 1) := by decide +kernel
theorem dX12_init_141 : decode cX12_init 141 = .ok (.iastore, 1) := by decide +kernel
theorem dX12_init_142 : decode cX12_init 142 = .ok (.putfield 61, 3) := by decide +kernel
theorem dX12_init_145 : decode cX12_init 145 = .ok (.aload_n 0, 1) := by decide +kernel
theorem dX12_init_146 : decode cX12_init 146 = .ok (.iconst 4, 1) := by decide +kernel
theorem dX12_init_147 : decode cX12_init 147 = .ok (.newarray .int, 2) := by decide +kernel
theorem dX12_init_149 : decode cX12_init 149 = .ok (.putfield 64, 3) := by decide +kernel
theorem dX12_init_152 : decode cX12_init 152 = .ok (.aload_n 0, 1) := by decide +kernel
theorem dX12_init_153 : decode cX12_init 153 = .ok (.sipush 240, 3) := by decide +kernel
theorem dX12_init_156 : decode cX12_init 156 = .ok (.newarray .long, 2) := by decide +kernel
theorem dX12_init_158 : decode cX12_init 158 = .ok (.putfield 67, 3) := by decide +kernel
theorem dX12_init_161 : decode cX12_init 161 = .ok (.aload_n 0, 1) := by decide +kernel
theorem dX12_init_162 : decode cX12_init 162 = .ok (.bipush 60, 2) := by decide +kernel
theorem dX12_init_164 : decode cX12_init 164 = .ok (.newarray .long, 2) := by decide +kernel
theorem dX12_init_166 : decode cX12_init 166 = .ok (.putfield 71, 3) := by decide +kernel
theorem dX12_init_169 : decode cX12_init 169 = .ok (.return_, 1) := by decide +kernel
set_option maxRecDepth 20000 in
theorem ggX12_keep_X12_in : GoodIn wsX12_keep wsX12_in := goodIn_r _ [8] (by decide +kernel) (by decide +kernel)
set_option maxRecDepth 20000 in
theorem gX12_keep_X12_in : GoodIn wsX12_keep (va_wsS RX12 76 yX12_in wsX12_in) := goodIn_app (goodIn_of _ (by decide +kernel)) ggX12_keep_X12_in
theorem dX12_keep_0 : decode cX12_keep 0 = .ok (.iload_n 1, 1) := by decide +kernel
theorem dX12_keep_1 : decode cX12_keep 1 = .ok (.i2l, 1) := by decide +kernel
theorem dX12_keep_2 : decode cX12_keep 2 = .ok (.lconst 0, 1) := by decide +kernel
theorem dX12_keep_3 : decode cX12_keep 3 = .ok (.ldc2_w 74, 3) := by decide +kernel
theorem dX12_keep_6 : decode cX12_keep 6 = .ok (.invokestatic 76, 3) := by decide +kernel
theorem dX12_keep_9 : decode cX12_keep 9 = .ok (.ifCond .ne 6, 3) := by decide +kernel
theorem dX12_keep_12 : decode cX12_keep 12 = .ok (.bipush (-2), 2) := by decide +kernel
theorem dX12_keep_14 : decode cX12_keep 14 = .ok (.ireturn, 1) := by decide +kernel
theorem dX12_keep_15 : decode cX12_keep 15 = .ok (.iconst 0, 1) := by decide +kernel
theorem dX12_keep_16 : decode cX12_keep 16 = .ok (.istore_n 2, 1) := by decide +kernel
theorem dX12_keep_17 : decode cX12_keep 17 = .ok (.iload_n 2, 1) := by decide +kernel
theorem dX12_keep_18 : decode cX12_keep 18 = .ok (.sipush 2482, 3) := by decide +kernel
theorem dX12_keep_21 : decode cX12_keep 21 = .ok (.if_icmp .ge 27, 3) := by decide +kernel
theorem dX12_keep_24 : decode cX12_keep 24 = .ok (.aload_n 0, 1) := by decide +kernel
theorem dX12_keep_25 : decode cX12_keep 25 = .ok (.getfield 17, 3) := by decide +kernel
theorem dX12_keep_28 : decode cX12_keep 28 = .ok (.sipush 2482, 3) := by decide +kernel
theorem dX12_keep_31 : decode cX12_keep 31 = .ok (.iload_n 1, 1) := by decide +kernel
theorem dX12_keep_32 : decode cX12_keep 32 = .ok (.imul, 1) := by decide +kernel
theorem dX12_keep_33 : decode cX12_keep 33 = .ok (.iload_n 2, 1) := by decide +kernel
theorem dX12_keep_34 : decode cX12_keep 34 = .ok (.iadd, 1) := by decide +kernel
theorem dX12_keep_35 : decode cX12_keep 35 = .ok (.aload_n 0, 1) := by decide +kernel
theorem dX12_keep_36 : decode cX12_keep 36 = .ok (.getfield 13, 3) := by decide +kernel
theorem dX12_keep_39 : decode cX12_keep 39 = .ok (.iload_n 2, 1) := by decide +kernel
theorem dX12_keep_40 : decode cX12_keep 40 = .ok (.iaload, 1) := by decide +kernel
theorem dX12_keep_41 : decode cX12_keep 41 = .ok (.iastore, 1) := by decide +kernel
theorem dX12_keep_42 : decode cX12_keep 42 = .ok (.iinc 2 1, 3) := by decide +kernel
theorem dX12_keep_45 : decode cX12_keep 45 = .ok (.goto (-28), 3) := by decide +kernel
theorem dX12_keep_48 : decode cX12_keep 48 = .ok (.aload_n 0, 1) := by decide +kernel
theorem dX12_keep_49 : decode cX12_keep 49 = .ok (.getfield 20, 3) := by decide +kernel
theorem dX12_keep_52 : decode cX12_keep 52 = .ok (.iload_n 1, 1) := by decide +kernel
theorem dX12_keep_53 : decode cX12_keep 53 = .ok (.iconst 1, 1) := by decide +kernel
theorem dX12_keep_54 : decode cX12_keep 54 = .ok (.bastore, 1) := by decide +kernel
theorem dX12_keep_55 : decode cX12_keep 55 = .ok (.iconst 0, 1) := by decide +kernel
theorem dX12_keep_56 : decode cX12_keep 56 = .ok (.ireturn, 1) := by decide +kernel
set_option maxRecDepth 20000 in
theorem ggX12_back_X12_in : GoodIn wsX12_back wsX12_in := goodIn_r _ [8] (by decide +kernel) (by decide +kernel)
set_option maxRecDepth 20000 in
theorem gX12_back_X12_in : GoodIn wsX12_back (va_wsS RX12 76 yX12_in wsX12_in) := goodIn_app (goodIn_of _ (by decide +kernel)) ggX12_back_X12_in
theorem dX12_back_0 : decode cX12_back 0 = .ok (.iload_n 1, 1) := by decide +kernel
theorem dX12_back_1 : decode cX12_back 1 = .ok (.i2l, 1) := by decide +kernel
theorem dX12_back_2 : decode cX12_back 2 = .ok (.lconst 0, 1) := by decide +kernel
theorem dX12_back_3 : decode cX12_back 3 = .ok (.ldc2_w 74, 3) := by decide +kernel
theorem dX12_back_6 : decode cX12_back 6 = .ok (.invokestatic 76, 3) := by decide +kernel
theorem dX12_back_9 : decode cX12_back 9 = .ok (.ifCond .ne 6, 3) := by decide +kernel
theorem dX12_back_12 : decode cX12_back 12 = .ok (.bipush (-2), 2) := by decide +kernel
theorem dX12_back_14 : decode cX12_back 14 = .ok (.ireturn, 1) := by decide +kernel
theorem dX12_back_15 : decode cX12_back 15 = .ok (.aload_n 0, 1) := by decide +kernel
theorem dX12_back_16 : decode cX12_back 16 = .ok (.getfield 20, 3) := by decide +kernel
theorem dX12_back_19 : decode cX12_back 19 = .ok (.iload_n 1, 1) := by decide +kernel
theorem dX12_back_20 : decode cX12_back 20 = .ok (.baload, 1) := by decide +kernel
theorem dX12_back_21 : decode cX12_back 21 = .ok (.ifCond .ne 6, 3) := by decide +kernel
theorem dX12_back_24 : decode cX12_back 24 = .ok (.bipush (-6), 2) := by decide +kernel
theorem dX12_back_26 : decode cX12_back 26 = .ok (.ireturn, 1) := by decide +kernel
theorem dX12_back_27 : decode cX12_back 27 = .ok (.iconst 0, 1) := by decide +kernel
theorem dX12_back_28 : decode cX12_back 28 = .ok (.istore_n 2, 1) := by decide +kernel
theorem dX12_back_29 : decode cX12_back 29 = .ok (.iload_n 2, 1) := by decide +kernel
theorem dX12_back_30 : decode cX12_back 30 = .ok (.sipush 2482, 3) := by decide +kernel
theorem dX12_back_33 : decode cX12_back 33 = .ok (.if_icmp .ge 27, 3) := by decide +kernel
theorem dX12_back_36 : decode cX12_back 36 = .ok (.aload_n 0, 1) := by decide +kernel
theorem dX12_back_37 : decode cX12_back 37 = .ok (.getfield 13, 3) := by decide +kernel
theorem dX12_back_40 : decode cX12_back 40 = .ok (.iload_n 2, 1) := by decide +kernel
theorem dX12_back_41 : decode cX12_back 41 = .ok (.aload_n 0, 1) := by decide +kernel
theorem dX12_back_42 : decode cX12_back 42 = .ok (.getfield 17, 3) := by decide +kernel
theorem dX12_back_45 : decode cX12_back 45 = .ok (.sipush 2482, 3) := by decide +kernel
theorem dX12_back_48 : decode cX12_back 48 = .ok (.iload_n 1, 1) := by decide +kernel
theorem dX12_back_49 : decode cX12_back 49 = .ok (.imul, 1) := by decide +kernel
theorem dX12_back_50 : decode cX12_back 50 = .ok (.iload_n 2, 1) := by decide +kernel
theorem dX12_back_51 : decode cX12_back 51 = .ok (.iadd, 1) := by decide +kernel
theorem dX12_back_52 : decode cX12_back 52 = .ok (.iaload, 1) := by decide +kernel
theorem dX12_back_53 : decode cX12_back 53 = .ok (.iastore, 1) := by decide +kernel
theorem dX12_back_54 : decode cX12_back 54 = .ok (.iinc 2 1, 3) := by decide +kernel
theorem dX12_back_57 : decode cX12_back 57 = .ok (.goto (-28), 3) := by decide +kernel
theorem dX12_back_60 : decode cX12_back 60 = .ok (.iconst 0, 1) := by decide +kernel
theorem dX12_back_61 : decode cX12_back 61 = .ok (.ireturn, 1) := by decide +kernel
set_option maxRecDepth 20000 in
theorem ggX12_isPot_X12_in : GoodIn wsX12_isPot wsX12_in := goodIn_r _ [5] (by decide +kernel) (by decide +kernel)
set_option maxRecDepth 20000 in
theorem gX12_isPot_X12_in : GoodIn wsX12_isPot (va_wsS RX12 76 yX12_in wsX12_in) := goodIn_app (goodIn_of _ (by decide +kernel)) ggX12_isPot_X12_in
theorem dX12_isPot_0 : decode cX12_isPot 0 = .ok (.iload_n 1, 1) := by decide +kernel
theorem dX12_isPot_1 : decode cX12_isPot 1 = .ok (.i2l, 1) := by decide +kernel
theorem dX12_isPot_2 : decode cX12_isPot 2 = .ok (.lconst 0, 1) := by decide +kernel
theorem dX12_isPot_3 : decode cX12_isPot 3 = .ok (.aload_n 0, 1) := by decide +kernel
theorem dX12_isPot_4 : decode cX12_isPot 4 = .ok (.getfield 13, 3) := by decide +kernel
theorem dX12_isPot_7 : decode cX12_isPot 7 = .ok (.iconst 1, 1) := by decide +kernel
theorem dX12_isPot_8 : decode cX12_isPot 8 = .ok (.iaload, 1) := by decide +kernel
theorem dX12_isPot_9 : decode cX12_isPot 9 = .ok (.iconst 1, 1) := by decide +kernel
theorem dX12_isPot_10 : decode cX12_isPot 10 = .ok (.isub, 1) := by decide +kernel
theorem dX12_isPot_11 : decode cX12_isPot 11 = .ok (.i2l, 1) := by decide +kernel
theorem dX12_isPot_12 : decode cX12_isPot 12 = .ok (.invokestatic 76, 3) := by decide +kernel
theorem dX12_isPot_15 : decode cX12_isPot 15 = .ok (.ireturn, 1) := by decide +kernel
set_option maxRecDepth 20000 in
theorem ggX12_isPipe_X12_in : GoodIn wsX12_isPipe wsX12_in := goodIn_r _ [5] (by decide +kernel) (by decide +kernel)
set_option maxRecDepth 20000 in
theorem gX12_isPipe_X12_in : GoodIn wsX12_isPipe (va_wsS RX12 76 yX12_in wsX12_in) := goodIn_app (goodIn_of _ (by decide +kernel)) ggX12_isPipe_X12_in
theorem dX12_isPipe_0 : decode cX12_isPipe 0 = .ok (.iload_n 1, 1) := by decide +kernel
theorem dX12_isPipe_1 : decode cX12_isPipe 1 = .ok (.i2l, 1) := by decide +kernel
theorem dX12_isPipe_2 : decode cX12_isPipe 2 = .ok (.lconst 0, 1) := by decide +kernel
theorem dX12_isPipe_3 : decode cX12_isPipe 3 = .ok (.aload_n 0, 1) := by decide +kernel
theorem dX12_isPipe_4 : decode cX12_isPipe 4 = .ok (.getfield 13, 3) := by decide +kernel
theorem dX12_isPipe_7 : decode cX12_isPipe 7 = .ok (.iconst 2, 1) := by decide +kernel
theorem dX12_isPipe_8 : decode cX12_isPipe 8 = .ok (.iaload, 1) := by decide +kernel
theorem dX12_isPipe_9 : decode cX12_isPipe 9 = .ok (.iconst 1, 1) := by decide +kernel
theorem dX12_isPipe_10 : decode cX12_isPipe 10 = .ok (.isub, 1) := by decide +kernel
theorem dX12_isPipe_11 : decode cX12_isPipe 11 = .ok (.i2l, 1) := by decide +kernel
theorem dX12_isPipe_12 : decode cX12_isPipe 12 = .ok (.invokestatic 76, 3) := by decide +kernel
theorem dX12_isPipe_15 : decode cX12_isPipe 15 = .ok (.ireturn, 1) := by decide +kernel
set_option maxRecDepth 20000 in
theorem ggX12_isHour_X12_in : GoodIn wsX12_isHour wsX12_in := goodIn_r _ [5] (by decide +kernel) (by decide +kernel)
set_option maxRecDepth 20000 in
theorem gX12_isHour_X12_in : GoodIn wsX12_isHour (va_wsS RX12 76 yX12_in wsX12_in) := goodIn_app (goodIn_of _ (by decide +kernel)) ggX12_isHour_X12_in
theorem dX12_isHour_0 : decode cX12_isHour 0 = .ok (.iload_n 1, 1) := by decide +kernel
theorem dX12_isHour_1 : decode cX12_isHour 1 = .ok (.i2l, 1) := by decide +kernel
theorem dX12_isHour_2 : decode cX12_isHour 2 = .ok (.lconst 0, 1) := by decide +kernel
theorem dX12_isHour_3 : decode cX12_isHour 3 = .ok (.aload_n 0, 1) := by decide +kernel
theorem dX12_isHour_4 : decode cX12_isHour 4 = .ok (.getfield 13, 3) := by decide +kernel
theorem dX12_isHour_7 : decode cX12_isHour 7 = .ok (.bipush 6, 2) := by decide +kernel
theorem dX12_isHour_9 : decode cX12_isHour 9 = .ok (.iaload, 1) := by decide +kernel
theorem dX12_isHour_10 : decode cX12_isHour 10 = .ok (.iconst 1, 1) := by decide +kernel
theorem dX12_isHour_11 : decode cX12_isHour 11 = .ok (.isub, 1) := by decide +kernel
theorem dX12_isHour_12 : decode cX12_isHour 12 = .ok (.i2l, 1) := by decide +kernel
theorem dX12_isHour_13 : decode cX12_isHour 13 = .ok (.invokestatic 76, 3) := by decide +kernel
theorem dX12_isHour_16 : decode cX12_isHour 16 = .ok (.ireturn, 1) := by decide +kernel
set_option maxRecDepth 20000 in
theorem ggX12_isPress_X12_in : GoodIn wsX12_isPress wsX12_in := goodIn_r _ [5] (by decide +kernel) (by decide +kernel)
set_option maxRecDepth 20000 in
theorem gX12_isPress_X12_in : GoodIn wsX12_isPress (va_wsS RX12 76 yX12_in wsX12_in) := goodIn_app (goodIn_of _ (by decide +kernel)) ggX12_isPress_X12_in
theorem dX12_isPress_0 : decode cX12_isPress 0 = .ok (.iload_n 0, 1) := by decide +kernel
theorem dX12_isPress_1 : decode cX12_isPress 1 = .ok (.i2l, 1) := by decide +kernel
theorem dX12_isPress_2 : decode cX12_isPress 2 = .ok (.lconst 0, 1) := by decide +kernel
theorem dX12_isPress_3 : decode cX12_isPress 3 = .ok (.ldc2_w 80, 3) := by decide +kernel
theorem dX12_isPress_6 : decode cX12_isPress 6 = .ok (.invokestatic 76, 3) := by decide +kernel
theorem dX12_isPress_9 : decode cX12_isPress 9 = .ok (.ireturn, 1) := by decide +kernel
theorem dX12_feed_0 : decode cX12_feed 0 = .ok (.aload_n 0, 1) := by decide +kernel
theorem dX12_feed_1 : decode cX12_feed 1 = .ok (.getfield 82, 3) := by decide +kernel
theorem dX12_feed_4 : decode cX12_feed 4 = .ok (.bipush 20, 2) := by decide +kernel
theorem dX12_feed_6 : decode cX12_feed 6 = .ok (.iadd, 1) := by decide +kernel
theorem dX12_feed_7 : decode cX12_feed 7 = .ok (.sipush 1600, 3) := by decide +kernel
theorem dX12_feed_10 : decode cX12_feed 10 = .ok (.if_icmp .le 5, 3) := by decide +kernel
theorem dX12_feed_13 : decode cX12_feed 13 = .ok (.iconst (-1), 1) := by decide +kernel
theorem dX12_feed_14 : decode cX12_feed 14 = .ok (.ireturn, 1) := by decide +kernel
theorem dX12_feed_15 : decode cX12_feed 15 = .ok (.aload_n 0, 1) := by decide +kernel
theorem dX12_feed_16 : decode cX12_feed 16 = .ok (.getfield 28, 3) := by decide +kernel
theorem dX12_feed_19 : decode cX12_feed 19 = .ok (.iconst 0, 1) := by decide +kernel
theorem dX12_feed_20 : decode cX12_feed 20 = .ok (.iload_n 1, 1) := by decide +kernel
theorem dX12_feed_21 : decode cX12_feed 21 = .ok (.iastore, 1) := by decide +kernel
theorem dX12_feed_22 : decode cX12_feed 22 = .ok (.aload_n 0, 1) := by decide +kernel
theorem dX12_feed_23 : decode cX12_feed 23 = .ok (.getfield 28, 3) := by decide +kernel
theorem dX12_feed_26 : decode cX12_feed 26 = .ok (.iconst 1, 1) := by decide +kernel
theorem dX12_feed_27 : decode cX12_feed 27 = .ok (.iload_n 2, 1) := by decide +kernel
theorem dX12_feed_28 : decode cX12_feed 28 = .ok (.iastore, 1) := by decide +kernel
theorem dX12_feed_29 : decode cX12_feed 29 = .ok (.aload_n 0, 1) := by decide +kernel
theorem dX12_feed_30 : decode cX12_feed 30 = .ok (.getfield 28, 3) := by decide +kernel
theorem dX12_feed_33 : decode cX12_feed 33 = .ok (.iconst 2, 1) := by decide +kernel
theorem dX12_feed_34 : decode cX12_feed 34 = .ok (.iload_n 3, 1) := by decide +kernel
theorem dX12_feed_35 : decode cX12_feed 35 = .ok (.iastore, 1) := by decide +kernel
theorem dX12_feed_36 : decode cX12_feed 36 = .ok (.aload_n 0, 1) := by decide +kernel
theorem dX12_feed_37 : decode cX12_feed 37 = .ok (.getfield 28, 3) := by decide +kernel
theorem dX12_feed_40 : decode cX12_feed 40 = .ok (.iconst 3, 1) := by decide +kernel
theorem dX12_feed_41 : decode cX12_feed 41 = .ok (.iload 4, 2) := by decide +kernel
theorem dX12_feed_43 : decode cX12_feed 43 = .ok (.iastore, 1) := by decide +kernel
theorem dX12_feed_44 : decode cX12_feed 44 = .ok (.aload_n 0, 1) := by decide +kernel
theorem dX12_feed_45 : decode cX12_feed 45 = .ok (.getfield 28, 3) := by decide +kernel
theorem dX12_feed_48 : decode cX12_feed 48 = .ok (.iconst 4, 1) := by decide +kernel
theorem dX12_feed_49 : decode cX12_feed 49 = .ok (.iload 5, 2) := by decide +kernel
theorem dX12_feed_51 : decode cX12_feed 51 = .ok (.iastore, 1) := by decide +kernel
theorem dX12_feed_52 : decode cX12_feed 52 = .ok (.iconst 0, 1) := by decide +kernel
theorem dX12_feed_53 : decode cX12_feed 53 = .ok (.istore 6, 2) := by decide +kernel
theorem dX12_feed_55 : decode cX12_feed 55 = .ok (.iload 6, 2) := by decide +kernel
theorem dX12_feed_57 : decode cX12_feed 57 = .ok (.bipush 20, 2) := by decide +kernel
theorem dX12_feed_59 : decode cX12_feed 59 = .ok (.if_icmp .ge 42, 3) := by decide +kernel
theorem dX12_feed_62 : decode cX12_feed 62 = .ok (.aload_n 0, 1) := by decide +kernel
theorem dX12_feed_63 : decode cX12_feed 63 = .ok (.getfield 24, 3) := by decide +kernel
theorem dX12_feed_66 : decode cX12_feed 66 = .ok (.aload_n 0, 1) := by decide +kernel
theorem dX12_feed_67 : decode cX12_feed 67 = .ok (.getfield 82, 3) := by decide +kernel
theorem dX12_feed_70 : decode cX12_feed 70 = .ok (.iload 6, 2) := by decide +kernel
theorem dX12_feed_72 : decode cX12_feed 72 = .ok (.iadd, 1) := by decide +kernel
theorem dX12_feed_73 : decode cX12_feed 73 = .ok (.aload_n 0, 1) := by decide +kernel
theorem dX12_feed_74 : decode cX12_feed 74 = .ok (.getfield 28, 3) := by decide +kernel
theorem dX12_feed_77 : decode cX12_feed 77 = .ok (.iload 6, 2) := by decide +kernel
theorem dX12_feed_79 : decode cX12_feed 79 = .ok (.iconst 4, 1) := by decide +kernel
theorem dX12_feed_80 : decode cX12_feed 80 = .ok (.idiv, 1) := by decide +kernel
theorem dX12_feed_81 : decode cX12_feed 81 = .ok (.iaload, 1) := by decide +kernel
theorem dX12_feed_82 : decode cX12_feed 82 = .ok (.bipush 24, 2) := by decide +kernel
theorem dX12_feed_84 : decode cX12_feed 84 = .ok (.bipush 8, 2) := by decide +kernel
theorem dX12_feed_86 : decode cX12_feed 86 = .ok (.iload 6, 2) := by decide +kernel
theorem dX12_feed_88 : decode cX12_feed 88 = .ok (.iconst 4, 1) := by decide +kernel
theorem dX12_feed_89 : decode cX12_feed 89 = .ok (.irem, 1) := by decide +kernel
theorem dX12_feed_90 : decode cX12_feed 90 = .ok (.imul, 1) := by decide +kernel
theorem dX12_feed_91 : decode cX12_feed 91 = .ok (.isub, 1) := by decide +kernel
theorem dX12_feed_92 : decode cX12_feed 92 = .ok (.ishr, 1) := by decide +kernel
theorem dX12_feed_93 : decode cX12_feed 93 = .ok (.i2b, 1) := by decide +kernel
theorem dX12_feed_94 : decode cX12_feed 94 = .ok (.bastore, 1) := by decide +kernel
theorem dX12_feed_95 : decode cX12_feed 95 = .ok (.iinc 6 1, 3) := by decide +kernel
theorem dX12_feed_98 : decode cX12_feed 98 = .ok (.goto (-43), 3) := by decide +kernel
theorem dX12_feed_101 : decode cX12_feed 101 = .ok (.aload_n 0, 1) := by decide +kernel
theorem dX12_feed_102 : decode cX12_feed 102 = .ok (.dup, 1) := by decide +kernel
theorem dX12_feed_103 : decode cX12_feed 103 = .ok (.getfield 82, 3) := by decide +kernel
theorem dX12_feed_106 : decode cX12_feed 106 = .ok (.bipush 20, 2) := by decide +kernel
theorem dX12_feed_108 : decode cX12_feed 108 = .ok (.iadd, 1) := by decide +kernel
theorem dX12_feed_109 : decode cX12_feed 109 = .ok (.putfield 82, 3) := by decide +kernel
theorem dX12_feed_112 : decode cX12_feed 112 = .ok (.aload_n 0, 1) := by decide +kernel
theorem dX12_feed_113 : decode cX12_feed 113 = .ok (.getfield 82, 3) := by decide +kernel
theorem dX12_feed_116 : decode cX12_feed 116 = .ok (.ireturn, 1) := by decide +kernel
set_option maxRecDepth 20000 in
theorem ggX12_end_X12_in : GoodIn wsX12_end wsX12_in := goodIn_r _ [5] (by decide +kernel) (by decide +kernel)
set_option maxRecDepth 20000 in
theorem gX12_end_X12_in : GoodIn wsX12_end (va_wsS RX12 76 yX12_in wsX12_in) := goodIn_app (goodIn_of _ (by decide +kernel)) ggX12_end_X12_in
theorem dX12_end_0 : decode cX12_end 0 = .ok (.iload_n 1, 1) := by decide +kernel
theorem dX12_end_1 : decode cX12_end 1 = .ok (.i2l, 1) := by decide +kernel
theorem dX12_end_2 : decode cX12_end 2 = .ok (.lconst 0, 1) := by decide +kernel
theorem dX12_end_3 : decode cX12_end 3 = .ok (.aload_n 0, 1) := by decide +kernel
theorem dX12_end_4 : decode cX12_end 4 = .ok (.getfield 82, 3) := by decide +kernel
theorem dX12_end_7 : decode cX12_end 7 = .ok (.i2l, 1) := by decide +kernel
theorem dX12_end_8 : decode cX12_end 8 = .ok (.invokestatic 76, 3) := by decide +kernel
theorem dX12_end_11 : decode cX12_end 11 = .ok (.ifCond .ne 5, 3) := by decide +kernel
theorem dX12_end_14 : decode cX12_end 14 = .ok (.iconst (-1), 1) := by decide +kernel
theorem dX12_end_15 : decode cX12_end 15 = .ok (.ireturn, 1) := by decide +kernel
theorem dX12_end_16 : decode cX12_end 16 = .ok (.aload_n 0, 1) := by decide +kernel
theorem dX12_end_17 : decode cX12_end 17 = .ok (.iload_n 1, 1) := by decide +kernel
theorem dX12_end_18 : decode cX12_end 18 = .ok (.putfield 82, 3) := by decide +kernel
theorem dX12_end_21 : decode cX12_end 21 = .ok (.iload_n 1, 1) := by decide +kernel
theorem dX12_end_22 : decode cX12_end 22 = .ok (.ireturn, 1) := by decide +kernel
theorem dX12_see_0 : decode cX12_see 0 = .ok (.iload_n 1, 1) := by decide +kernel
theorem dX12_see_1 : decode cX12_see 1 = .ok (.aload_n 0, 1) := by decide +kernel
theorem dX12_see_2 : decode cX12_see 2 = .ok (.getfield 85, 3) := by decide +kernel
theorem dX12_see_5 : decode cX12_see 5 = .ok (.if_icmp .ge 16, 3) := by decide +kernel
theorem dX12_see_8 : decode cX12_see 8 = .ok (.aload_n 0, 1) := by decide +kernel
theorem dX12_see_9 : decode cX12_see 9 = .ok (.getfield 24, 3) := by decide +kernel
theorem dX12_see_12 : decode cX12_see 12 = .ok (.iload_n 1, 1) := by decide +kernel
theorem dX12_see_13 : decode cX12_see 13 = .ok (.baload, 1) := by decide +kernel
theorem dX12_see_14 : decode cX12_see 14 = .ok (.sipush 255, 3) := by decide +kernel
theorem dX12_see_17 : decode cX12_see 17 = .ok (.iand, 1) := by decide +kernel
theorem dX12_see_18 : decode cX12_see 18 = .ok (.goto 4, 3) := by decide +kernel
theorem dX12_see_21 : decode cX12_see 21 = .ok (.iconst (-1), 1) := by decide +kernel
theorem dX12_see_22 : decode cX12_see 22 = .ok (.ireturn, 1) := by decide +kernel
set_option maxRecDepth 20000 in
theorem ggX12_advance_X12_see : GoodIn wsX12_advance wsX12_see := goodIn_r _ [18, 19, 20, 24, 25, 26, 27, 28, 29, 30, 31, 32, 33, 34, 35, 36, 37, 38, 39, 40, 41, 42, 43, 44, 45, 46, 47, 48, 49, 50, 51, 52, 53, 54, 55, 56, 57] (by decide +kernel) (by decide +kernel)
set_option maxRecDepth 20000 in
theorem gX12_advance_X12_see : GoodIn wsX12_advance (wsV RX12 91 RX12 yX12_see wsX12_see) := goodIn_app (goodIn_of _ (by decide +kernel)) ggX12_advance_X12_see
set_option maxRecDepth 20000 in
theorem ggX12_advance_X12_in : GoodIn wsX12_advance wsX12_in := goodIn_r _ [23] (by decide +kernel) (by decide +kernel)
set_option maxRecDepth 20000 in
theorem gX12_advance_X12_in : GoodIn wsX12_advance (va_wsS RX12 76 yX12_in wsX12_in) := goodIn_app (goodIn_of _ (by decide +kernel)) ggX12_advance_X12_in
theorem dX12_advance_0 : decode cX12_advance 0 = .ok (.aload_n 0, 1) := by decide +kernel
theorem dX12_advance_1 : decode cX12_advance 1 = .ok (.aload_n 0, 1) := by decide +kernel
theorem dX12_advance_2 : decode cX12_advance 2 = .ok (.getfield 88, 3) := by decide +kernel
theorem dX12_advance_5 : decode cX12_advance 5 = .ok (.invokevirtual 91, 3) := by decide +kernel
theorem dX12_advance_8 : decode cX12_advance 8 = .ok (.bipush 32, 2) := by decide +kernel
theorem dX12_advance_10 : decode cX12_advance 10 = .ok (.if_icmp .eq 16, 3) := by decide +kernel
theorem dX12_advance_13 : decode cX12_advance 13 = .ok (.aload_n 0, 1) := by decide +kernel
theorem dX12_advance_14 : decode cX12_advance 14 = .ok (.aload_n 0, 1) := by decide +kernel
theorem dX12_advance_15 : decode cX12_advance 15 = .ok (.getfield 88, 3) := by decide +kernel
theorem dX12_advance_18 : decode cX12_advance 18 = .ok (.invokevirtual 91, 3) := by decide +kernel
theorem dX12_advance_21 : decode cX12_advance 21 = .ok (.bipush 10, 2) := by decide +kernel
theorem dX12_advance_23 : decode cX12_advance 23 = .ok (.if_icmp .ne 16, 3) := by decide +kernel
theorem dX12_advance_26 : decode cX12_advance 26 = .ok (.aload_n 0, 1) := by decide +kernel
theorem dX12_advance_27 : decode cX12_advance 27 = .ok (.dup, 1) := by decide +kernel
theorem dX12_advance_28 : decode cX12_advance 28 = .ok (.getfield 88, 3) := by decide +kernel
theorem dX12_advance_31 : decode cX12_advance 31 = .ok (.iconst 1, 1) := by decide +kernel
theorem dX12_advance_32 : decode cX12_advance 32 = .ok (.iadd, 1) := by decide +kernel
theorem dX12_advance_33 : decode cX12_advance 33 = .ok (.putfield 88, 3) := by decide +kernel
theorem dX12_advance_36 : decode cX12_advance 36 = .ok (.goto (-36), 3) := by decide +kernel
theorem dX12_advance_39 : decode cX12_advance 39 = .ok (.aload_n 0, 1) := by decide +kernel
theorem dX12_advance_40 : decode cX12_advance 40 = .ok (.aload_n 0, 1) := by decide +kernel
theorem dX12_advance_41 : decode cX12_advance 41 = .ok (.getfield 88, 3) := by decide +kernel
theorem dX12_advance_44 : decode cX12_advance 44 = .ok (.putfield 95, 3) := by decide +kernel
theorem dX12_advance_47 : decode cX12_advance 47 = .ok (.aload_n 0, 1) := by decide +kernel
theorem dX12_advance_48 : decode cX12_advance 48 = .ok (.aload_n 0, 1) := by decide +kernel
theorem dX12_advance_49 : decode cX12_advance 49 = .ok (.getfield 88, 3) := by decide +kernel
theorem dX12_advance_52 : decode cX12_advance 52 = .ok (.invokevirtual 91, 3) := by decide +kernel
theorem dX12_advance_55 : decode cX12_advance 55 = .ok (.istore_n 1, 1) := by decide +kernel
theorem dX12_advance_56 : decode cX12_advance 56 = .ok (.iload_n 1, 1) := by decide +kernel
theorem dX12_advance_57 : decode cX12_advance 57 = .ok (.iconst (-1), 1) := by decide +kernel
theorem dX12_advance_58 : decode cX12_advance 58 = .ok (.if_icmp .ne 11, 3) := by decide +kernel
theorem dX12_advance_61 : decode cX12_advance 61 = .ok (.aload_n 0, 1) := by decide +kernel
theorem dX12_advance_62 : decode cX12_advance 62 = .ok (.iconst 0, 1) := by decide +kernel
theorem dX12_advance_63 : decode cX12_advance 63 = .ok (.putfield 98, 3) := by decide +kernel
theorem dX12_advance_66 : decode cX12_advance 66 = .ok (.goto 173, 3) := by decide +kernel
theorem dX12_advance_69 : decode cX12_advance 69 = .ok (.iload_n 1, 1) := by decide +kernel
theorem dX12_advance_70 : decode cX12_advance 70 = .ok (.i2l, 1) := by decide +kernel
theorem dX12_advance_71 : decode cX12_advance 71 = .ok (.ldc2_w 101, 3) := by decide +kernel
theorem dX12_advance_74 : decode cX12_advance 74 = .ok (.ldc2_w 103, 3) := by decide +kernel
theorem dX12_advance_77 : decode cX12_advance 77 = .ok (.invokestatic 76, 3) := by decide +kernel
theorem dX12_advance_80 : decode cX12_advance 80 = .ok (.ifCond .eq 45, 3) := by decide +kernel
theorem dX12_advance_83 : decode cX12_advance 83 = .ok (.aload_n 0, 1) := by decide +kernel
theorem dX12_advance_84 : decode cX12_advance 84 = .ok (.aload_n 0, 1) := by decide +kernel
theorem dX12_advance_85 : decode cX12_advance 85 = .ok (.getfield 88, 3) := by decide +kernel
theorem dX12_advance_88 : decode cX12_advance 88 = .ok (.invokevirtual 91, 3) := by decide +kernel
theorem dX12_advance_91 : decode cX12_advance 91 = .ok (.i2l, 1) := by decide +kernel
theorem dX12_advance_92 : decode cX12_advance 92 = .ok (.ldc2_w 101, 3) := by decide +kernel
theorem dX12_advance_95 : decode cX12_advance 95 = .ok (.ldc2_w 103, 3) := by decide +kernel
theorem dX12_advance_98 : decode cX12_advance 98 = .ok (.invokestatic 76, 3) := by decide +kernel
theorem dX12_advance_101 : decode cX12_advance 101 = .ok (.ifCond .eq 16, 3) := by decide +kernel
theorem dX12_advance_104 : decode cX12_advance 104 = .ok (.aload_n 0, 1) := by decide +kernel
theorem dX12_advance_105 : decode cX12_advance 105 = .ok (.dup, 1) := by decide +kernel
theorem dX12_advance_106 : decode cX12_advance 106 = .ok (.getfield 88, 3) := by decide +kernel
theorem dX12_advance_109 : decode cX12_advance 109 = .ok (.iconst 1, 1) := by decide +kernel
theorem dX12_advance_110 : decode cX12_advance 110 = .ok (.iadd, 1) := by decide +kernel
theorem dX12_advance_111 : decode cX12_advance 111 = .ok (.putfield 88, 3) := by decide +kernel
theorem dX12_advance_114 : decode cX12_advance 114 = .ok (.goto (-31), 3) := by decide +kernel
theorem dX12_advance_117 : decode cX12_advance 117 = .ok (.aload_n 0, 1) := by decide +kernel
theorem dX12_advance_118 : decode cX12_advance 118 = .ok (.iconst 1, 1) := by decide +kernel
theorem dX12_advance_119 : decode cX12_advance 119 = .ok (.putfield 98, 3) := by decide +kernel
theorem dX12_advance_122 : decode cX12_advance 122 = .ok (.goto 117, 3) := by decide +kernel
theorem dX12_advance_125 : decode cX12_advance 125 = .ok (.iload_n 1, 1) := by decide +kernel
theorem dX12_advance_126 : decode cX12_advance 126 = .ok (.i2l, 1) := by decide +kernel
theorem dX12_advance_127 : decode cX12_advance 127 = .ok (.ldc2_w 105, 3) := by decide +kernel
theorem dX12_advance_130 : decode cX12_advance 130 = .ok (.ldc2_w 107, 3) := by decide +kernel
theorem dX12_advance_133 : decode cX12_advance 133 = .ok (.invokestatic 76, 3) := by decide +kernel
theorem dX12_advance_136 : decode cX12_advance 136 = .ok (.ifCond .eq 78, 3) := by decide +kernel
theorem dX12_advance_139 : decode cX12_advance 139 = .ok (.aload_n 0, 1) := by decide +kernel
theorem dX12_advance_140 : decode cX12_advance 140 = .ok (.iconst 0, 1) := by decide +kernel
theorem dX12_advance_141 : decode cX12_advance 141 = .ok (.putfield 109, 3) := by decide +kernel
theorem dX12_advance_144 : decode cX12_advance 144 = .ok (.aload_n 0, 1) := by decide +kernel
theorem dX12_advance_145 : decode cX12_advance 145 = .ok (.aload_n 0, 1) := by decide +kernel
theorem dX12_advance_146 : decode cX12_advance 146 = .ok (.getfield 88, 3) := by decide +kernel
theorem dX12_advance_149 : decode cX12_advance 149 = .ok (.invokevirtual 91, 3) := by decide +kernel
theorem dX12_advance_152 : decode cX12_advance 152 = .ok (.i2l, 1) := by decide +kernel
theorem dX12_advance_153 : decode cX12_advance 153 = .ok (.ldc2_w 105, 3) := by decide +kernel
theorem dX12_advance_156 : decode cX12_advance 156 = .ok (.ldc2_w 107, 3) := by decide +kernel
theorem dX12_advance_159 : decode cX12_advance 159 = .ok (.invokestatic 76, 3) := by decide +kernel
theorem dX12_advance_162 : decode cX12_advance 162 = .ok (.ifCond .eq 44, 3) := by decide +kernel
theorem dX12_advance_165 : decode cX12_advance 165 = .ok (.aload_n 0, 1) := by decide +kernel
theorem dX12_advance_166 : decode cX12_advance 166 = .ok (.ldc 112, 2) := by decide +kernel
theorem dX12_advance_168 : decode cX12_advance 168 = .ok (.bipush 10, 2) := by decide +kernel
theorem dX12_advance_170 : decode cX12_advance 170 = .ok (.aload_n 0, 1) := by decide +kernel
theorem dX12_advance_171 : decode cX12_advance 171 = .ok (.getfield 109, 3) := by decide +kernel
theorem dX12_advance_174 : decode cX12_advance 174 = .ok (.imul, 1) := by decide +kernel
theorem dX12_advance_175 : decode cX12_advance 175 = .ok (.aload_n 0, 1) := by decide +kernel
theorem dX12_advance_176 : decode cX12_advance 176 = .ok (.aload_n 0, 1) := by decide +kernel
theorem dX12_advance_177 : decode cX12_advance 177 = .ok (.getfield 88, 3) := by decide +kernel
theorem dX12_advance_180 : decode cX12_advance 180 = .ok (.invokevirtual 91, 3) := by decide +kernel
theorem dX12_advance_183 : decode cX12_advance 183 = .ok (.iadd, 1) := by decide +kernel
theorem dX12_advance_184 : decode cX12_advance 184 = .ok (.bipush 48, 2) := by decide +kernel
theorem dX12_advance_186 : decode cX12_advance 186 = .ok (.isub, 1) := by decide +kernel
theorem dX12_advance_187 : decode cX12_advance 187 = .ok (.invokestatic 113, 3) := by decide +kernel
theorem dX12_advance_190 : decode cX12_advance 190 = .ok (.putfield 109, 3) := by decide +kernel
theorem dX12_advance_193 : decode cX12_advance 193 = .ok (.aload_n 0, 1) := by decide +kernel
theorem dX12_advance_194 : decode cX12_advance 194 = .ok (.dup, 1) := by decide +kernel
theorem dX12_advance_195 : decode cX12_advance 195 = .ok (.getfield 88, 3) := by decide +kernel
theorem dX12_advance_198 : decode cX12_advance 198 = .ok (.iconst 1, 1) := by decide +kernel
theorem dX12_advance_199 : decode cX12_advance 199 = .ok (.iadd, 1) := by decide +kernel
theorem dX12_advance_200 : decode cX12_advance 200 = .ok (.putfield 88, 3) := by decide +kernel
theorem dX12_advance_203 : decode cX12_advance 203 = .ok (.goto (-59), 3) := by decide +kernel
theorem dX12_advance_206 : decode cX12_advance 206 = .ok (.aload_n 0, 1) := by decide +kernel
theorem dX12_advance_207 : decode cX12_advance 207 = .ok (.iconst 2, 1) := by decide +kernel
theorem dX12_advance_208 : decode cX12_advance 208 = .ok (.putfield 98, 3) := by decide +kernel
theorem dX12_advance_211 : decode cX12_advance 211 = .ok (.goto 28, 3) := by decide +kernel
theorem dX12_advance_214 : decode cX12_advance 214 = .ok (.aload_n 0, 1) := by decide +kernel
theorem dX12_advance_215 : decode cX12_advance 215 = .ok (.iload_n 1, 1) := by decide +kernel
theorem dX12_advance_216 : decode cX12_advance 216 = .ok (.bipush 59, 2) := by decide +kernel
theorem dX12_advance_218 : decode cX12_advance 218 = .ok (.if_icmp .ne 7, 3) := by decide +kernel
theorem dX12_advance_221 : decode cX12_advance 221 = .ok (.iconst 3, 1) := by decide +kernel
theorem dX12_advance_222 : decode cX12_advance 222 = .ok (.goto 4, 3) := by decide +kernel
theorem dX12_advance_225 : decode cX12_advance 225 = .ok (.iconst 4, 1) := by decide +kernel
theorem dX12_advance_226 : decode cX12_advance 226 = .ok (.putfield 98, 3) := by decide +kernel
theorem dX12_advance_229 : decode cX12_advance 229 = .ok (.aload_n 0, 1) := by decide +kernel
theorem dX12_advance_230 : decode cX12_advance 230 = .ok (.dup, 1) := by decide +kernel
theorem dX12_advance_231 : decode cX12_advance 231 = .ok (.getfield 88, 3) := by decide +kernel
theorem dX12_advance_234 : decode cX12_advance 234 = .ok (.iconst 1, 1) := by decide +kernel
theorem dX12_advance_235 : decode cX12_advance 235 = .ok (.iadd, 1) := by decide +kernel
theorem dX12_advance_236 : decode cX12_advance 236 = .ok (.putfield 88, 3) := by decide +kernel
theorem dX12_advance_239 : decode cX12_advance 239 = .ok (.return_, 1) := by decide +kernel
theorem dX12_good_0 : decode cX12_good 0 = .ok (.aload_n 0, 1) := by decide +kernel
theorem dX12_good_1 : decode cX12_good 1 = .ok (.getfield 119, 3) := by decide +kernel
theorem dX12_good_4 : decode cX12_good 4 = .ok (.ifCond .ne 7, 3) := by decide +kernel
theorem dX12_good_7 : decode cX12_good 7 = .ok (.iconst 1, 1) := by decide +kernel
theorem dX12_good_8 : decode cX12_good 8 = .ok (.goto 4, 3) := by decide +kernel
theorem dX12_good_11 : decode cX12_good 11 = .ok (.iconst 0, 1) := by decide +kernel
theorem dX12_good_12 : decode cX12_good 12 = .ok (.ireturn, 1) := by decide +kernel
theorem dX12_fault_0 : decode cX12_fault 0 = .ok (.iload_n 1, 1) := by decide +kernel
theorem dX12_fault_1 : decode cX12_fault 1 = .ok (.ifCond .ne 10, 3) := by decide +kernel
theorem dX12_fault_4 : decode cX12_fault 4 = .ok (.aload_n 0, 1) := by decide +kernel
theorem dX12_fault_5 : decode cX12_fault 5 = .ok (.getfield 119, 3) := by decide +kernel
theorem dX12_fault_8 : decode cX12_fault 8 = .ok (.goto 16, 3) := by decide +kernel
theorem dX12_fault_11 : decode cX12_fault 11 = .ok (.iload_n 1, 1) := by decide +kernel
theorem dX12_fault_12 : decode cX12_fault 12 = .ok (.iconst 1, 1) := by decide +kernel
theorem dX12_fault_13 : decode cX12_fault 13 = .ok (.if_icmp .ne 10, 3) := by decide +kernel
theorem dX12_fault_16 : decode cX12_fault 16 = .ok (.aload_n 0, 1) := by decide +kernel
theorem dX12_fault_17 : decode cX12_fault 17 = .ok (.getfield 31, 3) := by decide +kernel
theorem dX12_fault_20 : decode cX12_fault 20 = .ok (.goto 4, 3) := by decide +kernel
theorem dX12_fault_23 : decode cX12_fault 23 = .ok (.iconst (-1), 1) := by decide +kernel
theorem dX12_fault_24 : decode cX12_fault 24 = .ok (.ireturn, 1) := by decide +kernel
theorem dX12_works_0 : decode cX12_works 0 = .ok (.aload_n 0, 1) := by decide +kernel
theorem dX12_works_1 : decode cX12_works 1 = .ok (.aload_n 0, 1) := by decide +kernel
theorem dX12_works_2 : decode cX12_works 2 = .ok (.getfield 82, 3) := by decide +kernel
theorem dX12_works_5 : decode cX12_works 5 = .ok (.putfield 85, 3) := by decide +kernel
theorem dX12_works_8 : decode cX12_works 8 = .ok (.aload_n 0, 1) := by decide +kernel
theorem dX12_works_9 : decode cX12_works 9 = .ok (.iconst 0, 1) := by decide +kernel
theorem dX12_works_10 : decode cX12_works 10 = .ok (.putfield 82, 3) := by decide +kernel
theorem dX12_works_13 : decode cX12_works 13 = .ok (.aload_n 0, 1) := by decide +kernel
theorem dX12_works_14 : decode cX12_works 14 = .ok (.iconst 0, 1) := by decide +kernel
theorem dX12_works_15 : decode cX12_works 15 = .ok (.putfield 88, 3) := by decide +kernel
theorem dX12_works_18 : decode cX12_works 18 = .ok (.aload_n 0, 1) := by decide +kernel
theorem dX12_works_19 : decode cX12_works 19 = .ok (.iconst 0, 1) := by decide +kernel
theorem dX12_works_20 : decode cX12_works 20 = .ok (.putfield 119, 3) := by decide +kernel
theorem dX12_works_23 : decode cX12_works 23 = .ok (.aload_n 0, 1) := by decide +kernel
theorem dX12_works_24 : decode cX12_works 24 = .ok (.iconst (-1), 1) := by decide +kernel
theorem dX12_works_25 : decode cX12_works 25 = .ok (.putfield 31, 3) := by decide +kernel
theorem dX12_works_28 : decode cX12_works 28 = .ok (.iconst 0, 1) := by decide +kernel
theorem dX12_works_29 : decode cX12_works 29 = .ok (.istore_n 1, 1) := by decide +kernel
theorem dX12_works_30 : decode cX12_works 30 = .ok (.iload_n 1, 1) := by decide +kernel
theorem dX12_works_31 : decode cX12_works 31 = .ok (.sipush 2482, 3) := by decide +kernel
theorem dX12_works_34 : decode cX12_works 34 = .ok (.if_icmp .ge 16, 3) := by decide +kernel
theorem dX12_works_37 : decode cX12_works 37 = .ok (.aload_n 0, 1) := by decide +kernel
theorem dX12_works_38 : decode cX12_works 38 = .ok (.getfield 34, 3) := by decide +kernel
theorem dX12_works_41 : decode cX12_works 41 = .ok (.iload_n 1, 1) := by decide +kernel
theorem dX12_works_42 : decode cX12_works 42 = .ok (.iconst 0, 1) := by decide +kernel
theorem dX12_works_43 : decode cX12_works 43 = .ok (.iastore, 1) := by decide +kernel
theorem dX12_works_44 : decode cX12_works 44 = .ok (.iinc 1 1, 3) := by decide +kernel
theorem dX12_works_47 : decode cX12_works 47 = .ok (.goto (-17), 3) := by decide +kernel
theorem dX12_works_50 : decode cX12_works 50 = .ok (.aload_n 0, 1) := by decide +kernel
theorem dX12_works_51 : decode cX12_works 51 = .ok (.iconst 0, 1) := by decide +kernel
theorem dX12_works_52 : decode cX12_works 52 = .ok (.putfield 251, 3) := by decide +kernel
theorem dX12_works_55 : decode cX12_works 55 = .ok (.aload_n 0, 1) := by decide +kernel
theorem dX12_works_56 : decode cX12_works 56 = .ok (.invokevirtual 140, 3) := by decide +kernel
theorem dX12_works_59 : decode cX12_works 59 = .ok (.aload_n 0, 1) := by decide +kernel
theorem dX12_works_60 : decode cX12_works 60 = .ok (.invokevirtual 122, 3) := by decide +kernel
theorem dX12_works_63 : decode cX12_works 63 = .ok (.ifCond .eq 17, 3) := by decide +kernel
theorem dX12_works_66 : decode cX12_works 66 = .ok (.aload_n 0, 1) := by decide +kernel
theorem dX12_works_67 : decode cX12_works 67 = .ok (.getfield 98, 3) := by decide +kernel
theorem dX12_works_70 : decode cX12_works 70 = .ok (.ifCond .eq 10, 3) := by decide +kernel
theorem dX12_works_73 : decode cX12_works 73 = .ok (.aload_n 0, 1) := by decide +kernel
theorem dX12_works_74 : decode cX12_works 74 = .ok (.invokevirtual 296, 3) := by decide +kernel
theorem dX12_works_77 : decode cX12_works 77 = .ok (.goto (-18), 3) := by decide +kernel
theorem dX12_works_80 : decode cX12_works 80 = .ok (.aload_n 0, 1) := by decide +kernel
theorem dX12_works_81 : decode cX12_works 81 = .ok (.invokevirtual 122, 3) := by decide +kernel
theorem dX12_works_84 : decode cX12_works 84 = .ok (.ifCond .ne 6, 3) := by decide +kernel
theorem dX12_works_87 : decode cX12_works 87 = .ok (.bipush (-4), 2) := by decide +kernel
theorem dX12_works_89 : decode cX12_works 89 = .ok (.ireturn, 1) := by decide +kernel
theorem dX12_works_90 : decode cX12_works 90 = .ok (.iconst 0, 1) := by decide +kernel
theorem dX12_works_91 : decode cX12_works 91 = .ok (.istore_n 1, 1) := by decide +kernel
theorem dX12_works_92 : decode cX12_works 92 = .ok (.iload_n 1, 1) := by decide +kernel
theorem dX12_works_93 : decode cX12_works 93 = .ok (.sipush 2482, 3) := by decide +kernel
theorem dX12_works_96 : decode cX12_works 96 = .ok (.if_icmp .ge 21, 3) := by decide +kernel
theorem dX12_works_99 : decode cX12_works 99 = .ok (.aload_n 0, 1) := by decide +kernel
theorem dX12_works_100 : decode cX12_works 100 = .ok (.getfield 13, 3) := by decide +kernel
theorem dX12_works_103 : decode cX12_works 103 = .ok (.iload_n 1, 1) := by decide +kernel
theorem dX12_works_104 : decode cX12_works 104 = .ok (.aload_n 0, 1) := by decide +kernel
theorem dX12_works_105 : decode cX12_works 105 = .ok (.getfield 34, 3) := by decide +kernel
theorem dX12_works_108 : decode cX12_works 108 = .ok (.iload_n 1, 1) := by decide +kernel
theorem dX12_works_109 : decode cX12_works 109 = .ok (.iaload, 1) := by decide +kernel
theorem dX12_works_110 : decode cX12_works 110 = .ok (.iastore, 1) := by decide +kernel
theorem dX12_works_111 : decode cX12_works 111 = .ok (.iinc 1 1, 3) := by decide +kernel
theorem dX12_works_114 : decode cX12_works 114 = .ok (.goto (-22), 3) := by decide +kernel
theorem dX12_works_117 : decode cX12_works 117 = .ok (.aload_n 0, 1) := by decide +kernel
theorem dX12_works_118 : decode cX12_works 118 = .ok (.getfield 13, 3) := by decide +kernel
theorem dX12_works_121 : decode cX12_works 121 = .ok (.iconst 0, 1) := by decide +kernel
theorem dX12_works_122 : decode cX12_works 122 = .ok (.iaload, 1) := by decide +kernel
theorem dX12_works_123 : decode cX12_works 123 = .ok (.ireturn, 1) := by decide +kernel
set_option maxRecDepth 20000 in
theorem ggX12_height_X12_isPot : GoodIn wsX12_height wsX12_isPot := goodIn_r _ [7, 1, 8, 9, 6, 10, 11, 12, 13, 14, 15, 16, 17, 18, 19, 20, 21, 22, 23, 24, 25, 26, 27, 28, 29, 30, 31, 32, 33, 34, 35, 36, 37, 38, 39, 40, 41, 42, 43, 44] (by decide +kernel) (by decide +kernel)
set_option maxRecDepth 20000 in
theorem gX12_height_X12_isPot : GoodIn wsX12_height (wsV RX12 299 RX12 yX12_isPot wsX12_isPot) := goodIn_app (goodIn_of _ (by decide +kernel)) ggX12_height_X12_isPot
theorem dX12_height_0 : decode cX12_height 0 = .ok (.aload_n 0, 1) := by decide +kernel
theorem dX12_height_1 : decode cX12_height 1 = .ok (.iload_n 1, 1) := by decide +kernel
theorem dX12_height_2 : decode cX12_height 2 = .ok (.invokevirtual 299, 3) := by decide +kernel
theorem dX12_height_5 : decode cX12_height 5 = .ok (.ifCond .eq 17, 3) := by decide +kernel
theorem dX12_height_8 : decode cX12_height 8 = .ok (.aload_n 0, 1) := by decide +kernel
theorem dX12_height_9 : decode cX12_height 9 = .ok (.getfield 13, 3) := by decide +kernel
theorem dX12_height_12 : decode cX12_height 12 = .ok (.bipush 10, 2) := by decide +kernel
theorem dX12_height_14 : decode cX12_height 14 = .ok (.iconst 2, 1) := by decide +kernel
theorem dX12_height_15 : decode cX12_height 15 = .ok (.iload_n 1, 1) := by decide +kernel
theorem dX12_height_16 : decode cX12_height 16 = .ok (.imul, 1) := by decide +kernel
theorem dX12_height_17 : decode cX12_height 17 = .ok (.iadd, 1) := by decide +kernel
theorem dX12_height_18 : decode cX12_height 18 = .ok (.iaload, 1) := by decide +kernel
theorem dX12_height_19 : decode cX12_height 19 = .ok (.goto 6, 3) := by decide +kernel
theorem dX12_height_22 : decode cX12_height 22 = .ok (.ldc_w 302, 3) := by decide +kernel
theorem dX12_height_25 : decode cX12_height 25 = .ok (.ireturn, 1) := by decide +kernel
set_option maxRecDepth 20000 in
theorem ggX12_pipe_X12_isPipe : GoodIn wsX12_pipe wsX12_isPipe := goodIn_r _ [9, 10, 11, 12, 8, 13, 45, 46, 47, 48, 49, 50, 51, 52, 53, 54, 55, 56, 57, 58, 59, 60, 61, 62, 63, 64, 65, 66, 67, 68, 69, 70, 71, 72, 73, 74, 75, 76, 77, 78] (by decide +kernel) (by decide +kernel)
set_option maxRecDepth 20000 in
theorem gX12_pipe_X12_isPipe : GoodIn wsX12_pipe (wsV RX12 320 RX12 yX12_isPipe wsX12_isPipe) := goodIn_app (goodIn_of _ (by decide +kernel)) ggX12_pipe_X12_isPipe
set_option maxRecDepth 20000 in
theorem ggX12_pipe_X12_in : GoodIn wsX12_pipe wsX12_in := goodIn_r _ [13] (by decide +kernel) (by decide +kernel)
set_option maxRecDepth 20000 in
theorem gX12_pipe_X12_in : GoodIn wsX12_pipe (va_wsS RX12 76 yX12_in wsX12_in) := goodIn_app (goodIn_of _ (by decide +kernel)) ggX12_pipe_X12_in
theorem dX12_pipe_0 : decode cX12_pipe 0 = .ok (.aload_n 0, 1) := by decide +kernel
theorem dX12_pipe_1 : decode cX12_pipe 1 = .ok (.iload_n 1, 1) := by decide +kernel
theorem dX12_pipe_2 : decode cX12_pipe 2 = .ok (.invokevirtual 320, 3) := by decide +kernel
theorem dX12_pipe_5 : decode cX12_pipe 5 = .ok (.ifCond .eq 15, 3) := by decide +kernel
theorem dX12_pipe_8 : decode cX12_pipe 8 = .ok (.iload_n 2, 1) := by decide +kernel
theorem dX12_pipe_9 : decode cX12_pipe 9 = .ok (.i2l, 1) := by decide +kernel
theorem dX12_pipe_10 : decode cX12_pipe 10 = .ok (.lconst 0, 1) := by decide +kernel
theorem dX12_pipe_11 : decode cX12_pipe 11 = .ok (.ldc2_w 323, 3) := by decide +kernel
theorem dX12_pipe_14 : decode cX12_pipe 14 = .ok (.invokestatic 76, 3) := by decide +kernel
theorem dX12_pipe_17 : decode cX12_pipe 17 = .ok (.ifCond .ne 7, 3) := by decide +kernel
theorem dX12_pipe_20 : decode cX12_pipe 20 = .ok (.ldc_w 302, 3) := by decide +kernel
theorem dX12_pipe_23 : decode cX12_pipe 23 = .ok (.ireturn, 1) := by decide +kernel
theorem dX12_pipe_24 : decode cX12_pipe 24 = .ok (.aload_n 0, 1) := by decide +kernel
theorem dX12_pipe_25 : decode cX12_pipe 25 = .ok (.iload_n 1, 1) := by decide +kernel
theorem dX12_pipe_26 : decode cX12_pipe 26 = .ok (.invokevirtual 314, 3) := by decide +kernel
theorem dX12_pipe_29 : decode cX12_pipe 29 = .ok (.iload_n 2, 1) := by decide +kernel
theorem dX12_pipe_30 : decode cX12_pipe 30 = .ok (.tableswitch 108 0 6 #[42, 49, 56, 61, 66, 72, 78], 42) := by decide +kernel
theorem dX12_pipe_72 : decode cX12_pipe 72 = .ok (.aload_n 0, 1) := by decide +kernel
theorem dX12_pipe_73 : decode cX12_pipe 73 = .ok (.iload_n 1, 1) := by decide +kernel
theorem dX12_pipe_74 : decode cX12_pipe 74 = .ok (.iconst 0, 1) := by decide +kernel
theorem dX12_pipe_75 : decode cX12_pipe 75 = .ok (.invokevirtual 308, 3) := by decide +kernel
theorem dX12_pipe_78 : decode cX12_pipe 78 = .ok (.ireturn, 1) := by decide +kernel
theorem dX12_pipe_79 : decode cX12_pipe 79 = .ok (.aload_n 0, 1) := by decide +kernel
theorem dX12_pipe_80 : decode cX12_pipe 80 = .ok (.iload_n 1, 1) := by decide +kernel
theorem dX12_pipe_81 : decode cX12_pipe 81 = .ok (.iconst 1, 1) := by decide +kernel
theorem dX12_pipe_82 : decode cX12_pipe 82 = .ok (.invokevirtual 308, 3) := by decide +kernel
theorem dX12_pipe_85 : decode cX12_pipe 85 = .ok (.ireturn, 1) := by decide +kernel
theorem dX12_pipe_86 : decode cX12_pipe 86 = .ok (.aload_n 0, 1) := by decide +kernel
theorem dX12_pipe_87 : decode cX12_pipe 87 = .ok (.getfield 303, 3) := by decide +kernel
theorem dX12_pipe_90 : decode cX12_pipe 90 = .ok (.ireturn, 1) := by decide +kernel
theorem dX12_pipe_91 : decode cX12_pipe 91 = .ok (.aload_n 0, 1) := by decide +kernel
theorem dX12_pipe_92 : decode cX12_pipe 92 = .ok (.getfield 306, 3) := by decide +kernel
theorem dX12_pipe_95 : decode cX12_pipe 95 = .ok (.ireturn, 1) := by decide +kernel
theorem dX12_pipe_96 : decode cX12_pipe 96 = .ok (.aload_n 0, 1) := by decide +kernel
theorem dX12_pipe_97 : decode cX12_pipe 97 = .ok (.iload_n 1, 1) := by decide +kernel
theorem dX12_pipe_98 : decode cX12_pipe 98 = .ok (.invokevirtual 325, 3) := by decide +kernel
theorem dX12_pipe_101 : decode cX12_pipe 101 = .ok (.ireturn, 1) := by decide +kernel
theorem dX12_pipe_102 : decode cX12_pipe 102 = .ok (.aload_n 0, 1) := by decide +kernel
theorem dX12_pipe_103 : decode cX12_pipe 103 = .ok (.iload_n 1, 1) := by decide +kernel
theorem dX12_pipe_104 : decode cX12_pipe 104 = .ok (.invokevirtual 328, 3) := by decide +kernel
theorem dX12_pipe_107 : decode cX12_pipe 107 = .ok (.ireturn, 1) := by decide +kernel
theorem dX12_pipe_108 : decode cX12_pipe 108 = .ok (.aload_n 0, 1) := by decide +kernel
theorem dX12_pipe_109 : decode cX12_pipe 109 = .ok (.iload_n 1, 1) := by decide +kernel
theorem dX12_pipe_110 : decode cX12_pipe 110 = .ok (.iconst 1, 1) := by decide +kernel
theorem dX12_pipe_111 : decode cX12_pipe 111 = .ok (.invokevirtual 308, 3) := by decide +kernel
theorem dX12_pipe_114 : decode cX12_pipe 114 = .ok (.aload_n 0, 1) := by decide +kernel
theorem dX12_pipe_115 : decode cX12_pipe 115 = .ok (.iload_n 1, 1) := by decide +kernel
theorem dX12_pipe_116 : decode cX12_pipe 116 = .ok (.iconst 0, 1) := by decide +kernel
theorem dX12_pipe_117 : decode cX12_pipe 117 = .ok (.invokevirtual 308, 3) := by decide +kernel
theorem dX12_pipe_120 : decode cX12_pipe 120 = .ok (.iconst 1, 1) := by decide +kernel
theorem dX12_pipe_121 : decode cX12_pipe 121 = .ok (.iadd, 1) := by decide +kernel
theorem dX12_pipe_122 : decode cX12_pipe 122 = .ok (.if_icmp .le 14, 3) := by decide +kernel
theorem dX12_pipe_125 : decode cX12_pipe 125 = .ok (.aload_n 0, 1) := by decide +kernel
theorem dX12_pipe_126 : decode cX12_pipe 126 = .ok (.iload_n 1, 1) := by decide +kernel
theorem dX12_pipe_127 : decode cX12_pipe 127 = .ok (.iconst 0, 1) := by decide +kernel
theorem dX12_pipe_128 : decode cX12_pipe 128 = .ok (.invokevirtual 308, 3) := by decide +kernel
theorem dX12_pipe_131 : decode cX12_pipe 131 = .ok (.iconst 1, 1) := by decide +kernel
theorem dX12_pipe_132 : decode cX12_pipe 132 = .ok (.iadd, 1) := by decide +kernel
theorem dX12_pipe_133 : decode cX12_pipe 133 = .ok (.goto 4, 3) := by decide +kernel
theorem dX12_pipe_136 : decode cX12_pipe 136 = .ok (.iconst (-1), 1) := by decide +kernel
theorem dX12_pipe_137 : decode cX12_pipe 137 = .ok (.ireturn, 1) := by decide +kernel
theorem dX12_pipe_138 : decode cX12_pipe 138 = .ok (.aload_n 0, 1) := by decide +kernel
theorem dX12_pipe_139 : decode cX12_pipe 139 = .ok (.iload_n 1, 1) := by decide +kernel
theorem dX12_pipe_140 : decode cX12_pipe 140 = .ok (.invokevirtual 331, 3) := by decide +kernel
theorem dX12_pipe_143 : decode cX12_pipe 143 = .ok (.ireturn, 1) := by decide +kernel
set_option maxRecDepth 20000 in
theorem ggX12_bend_X12_isPipe : GoodIn wsX12_bend wsX12_isPipe := goodIn_r _ [12, 13, 14, 15, 11, 16, 29, 30, 31, 32, 33, 34, 35, 36, 37, 38, 39, 40, 41, 42, 43, 44, 45, 46, 47, 48, 49, 50, 51, 52, 53, 54, 55, 56, 57, 58, 59, 60, 61, 62] (by decide +kernel) (by decide +kernel)
set_option maxRecDepth 20000 in
theorem gX12_bend_X12_isPipe : GoodIn wsX12_bend (wsV RX12 320 RX12 yX12_isPipe wsX12_isPipe) := goodIn_app (goodIn_of _ (by decide +kernel)) ggX12_bend_X12_isPipe
set_option maxRecDepth 20000 in
theorem ggX12_bend_X12_in : GoodIn wsX12_bend wsX12_in := goodIn_r _ [16] (by decide +kernel) (by decide +kernel)
set_option maxRecDepth 20000 in
theorem gX12_bend_X12_in : GoodIn wsX12_bend (va_wsS RX12 76 yX12_in wsX12_in) := goodIn_app (goodIn_of _ (by decide +kernel)) ggX12_bend_X12_in
theorem dX12_bend_0 : decode cX12_bend 0 = .ok (.aload_n 0, 1) := by decide +kernel
theorem dX12_bend_1 : decode cX12_bend 1 = .ok (.iload_n 1, 1) := by decide +kernel
theorem dX12_bend_2 : decode cX12_bend 2 = .ok (.invokevirtual 320, 3) := by decide +kernel
theorem dX12_bend_5 : decode cX12_bend 5 = .ok (.ifCond .eq 15, 3) := by decide +kernel
theorem dX12_bend_8 : decode cX12_bend 8 = .ok (.iload_n 3, 1) := by decide +kernel
theorem dX12_bend_9 : decode cX12_bend 9 = .ok (.i2l, 1) := by decide +kernel
theorem dX12_bend_10 : decode cX12_bend 10 = .ok (.lconst 0, 1) := by decide +kernel
theorem dX12_bend_11 : decode cX12_bend 11 = .ok (.ldc2_w 334, 3) := by decide +kernel
theorem dX12_bend_14 : decode cX12_bend 14 = .ok (.invokestatic 76, 3) := by decide +kernel
theorem dX12_bend_17 : decode cX12_bend 17 = .ok (.ifCond .ne 7, 3) := by decide +kernel
theorem dX12_bend_20 : decode cX12_bend 20 = .ok (.ldc_w 302, 3) := by decide +kernel
theorem dX12_bend_23 : decode cX12_bend 23 = .ok (.ireturn, 1) := by decide +kernel
theorem dX12_bend_24 : decode cX12_bend 24 = .ok (.aload_n 0, 1) := by decide +kernel
theorem dX12_bend_25 : decode cX12_bend 25 = .ok (.iload_n 1, 1) := by decide +kernel
theorem dX12_bend_26 : decode cX12_bend 26 = .ok (.invokevirtual 314, 3) := by decide +kernel
theorem dX12_bend_29 : decode cX12_bend 29 = .ok (.iload_n 2, 1) := by decide +kernel
theorem dX12_bend_30 : decode cX12_bend 30 = .ok (.i2l, 1) := by decide +kernel
theorem dX12_bend_31 : decode cX12_bend 31 = .ok (.lconst 0, 1) := by decide +kernel
theorem dX12_bend_32 : decode cX12_bend 32 = .ok (.aload_n 0, 1) := by decide +kernel
theorem dX12_bend_33 : decode cX12_bend 33 = .ok (.getfield 303, 3) := by decide +kernel
theorem dX12_bend_36 : decode cX12_bend 36 = .ok (.iconst 1, 1) := by decide +kernel
theorem dX12_bend_37 : decode cX12_bend 37 = .ok (.isub, 1) := by decide +kernel
theorem dX12_bend_38 : decode cX12_bend 38 = .ok (.i2l, 1) := by decide +kernel
theorem dX12_bend_39 : decode cX12_bend 39 = .ok (.invokestatic 76, 3) := by decide +kernel
theorem dX12_bend_42 : decode cX12_bend 42 = .ok (.ifCond .ne 7, 3) := by decide +kernel
theorem dX12_bend_45 : decode cX12_bend 45 = .ok (.ldc_w 302, 3) := by decide +kernel
theorem dX12_bend_48 : decode cX12_bend 48 = .ok (.ireturn, 1) := by decide +kernel
theorem dX12_bend_49 : decode cX12_bend 49 = .ok (.iload_n 3, 1) := by decide +kernel
theorem dX12_bend_50 : decode cX12_bend 50 = .ok (.ifCond .ne 12, 3) := by decide +kernel
theorem dX12_bend_53 : decode cX12_bend 53 = .ok (.aload_n 0, 1) := by decide +kernel
theorem dX12_bend_54 : decode cX12_bend 54 = .ok (.getfield 37, 3) := by decide +kernel
theorem dX12_bend_57 : decode cX12_bend 57 = .ok (.iload_n 2, 1) := by decide +kernel
theorem dX12_bend_58 : decode cX12_bend 58 = .ok (.iaload, 1) := by decide +kernel
theorem dX12_bend_59 : decode cX12_bend 59 = .ok (.goto 37, 3) := by decide +kernel
theorem dX12_bend_62 : decode cX12_bend 62 = .ok (.iload_n 3, 1) := by decide +kernel
theorem dX12_bend_63 : decode cX12_bend 63 = .ok (.iconst 1, 1) := by decide +kernel
theorem dX12_bend_64 : decode cX12_bend 64 = .ok (.if_icmp .ne 12, 3) := by decide +kernel
theorem dX12_bend_67 : decode cX12_bend 67 = .ok (.aload_n 0, 1) := by decide +kernel
theorem dX12_bend_68 : decode cX12_bend 68 = .ok (.getfield 40, 3) := by decide +kernel
theorem dX12_bend_71 : decode cX12_bend 71 = .ok (.iload_n 2, 1) := by decide +kernel
theorem dX12_bend_72 : decode cX12_bend 72 = .ok (.iaload, 1) := by decide +kernel
theorem dX12_bend_73 : decode cX12_bend 73 = .ok (.goto 23, 3) := by decide +kernel
theorem dX12_bend_76 : decode cX12_bend 76 = .ok (.iload_n 3, 1) := by decide +kernel
theorem dX12_bend_77 : decode cX12_bend 77 = .ok (.iconst 2, 1) := by decide +kernel
theorem dX12_bend_78 : decode cX12_bend 78 = .ok (.if_icmp .ne 12, 3) := by decide +kernel
