theorem dX4_leastRules_18 : decode cX4_leastRules 18 = .ok (.goto 6, 3) := by decide +kernel
theorem dX4_leastRules_21 : decode cX4_leastRules 21 = .ok (.ldc2_w 55, 3) := by decide +kernel
theorem dX4_leastRules_24 : decode cX4_leastRules 24 = .ok (.lastore, 1) := by decide +kernel
theorem dX4_leastRules_25 : decode cX4_leastRules 25 = .ok (.iinc 2 1, 3) := by decide +kernel
theorem dX4_leastRules_28 : decode cX4_leastRules 28 = .ok (.goto (-26), 3) := by decide +kernel
theorem dX4_leastRules_31 : decode cX4_leastRules 31 = .ok (.iconst 0, 1) := by decide +kernel
theorem dX4_leastRules_32 : decode cX4_leastRules 32 = .ok (.istore_n 2, 1) := by decide +kernel
theorem dX4_leastRules_33 : decode cX4_leastRules 33 = .ok (.iload_n 2, 1) := by decide +kernel
theorem dX4_leastRules_34 : decode cX4_leastRules 34 = .ok (.iconst 4, 1) := by decide +kernel
theorem dX4_leastRules_35 : decode cX4_leastRules 35 = .ok (.if_icmp .ge 59, 3) := by decide +kernel
theorem dX4_leastRules_38 : decode cX4_leastRules 38 = .ok (.iconst 0, 1) := by decide +kernel
theorem dX4_leastRules_39 : decode cX4_leastRules 39 = .ok (.istore_n 3, 1) := by decide +kernel
theorem dX4_leastRules_40 : decode cX4_leastRules 40 = .ok (.iload_n 3, 1) := by decide +kernel
theorem dX4_leastRules_41 : decode cX4_leastRules 41 = .ok (.bipush 16, 2) := by decide +kernel
theorem dX4_leastRules_43 : decode cX4_leastRules 43 = .ok (.if_icmp .ge 21, 3) := by decide +kernel
theorem dX4_leastRules_46 : decode cX4_leastRules 46 = .ok (.aload_n 0, 1) := by decide +kernel
theorem dX4_leastRules_47 : decode cX4_leastRules 47 = .ok (.getfield 44, 3) := by decide +kernel
theorem dX4_leastRules_50 : decode cX4_leastRules 50 = .ok (.iload_n 3, 1) := by decide +kernel
theorem dX4_leastRules_51 : decode cX4_leastRules 51 = .ok (.aload_n 0, 1) := by decide +kernel
theorem dX4_leastRules_52 : decode cX4_leastRules 52 = .ok (.iload_n 2, 1) := by decide +kernel
theorem dX4_leastRules_53 : decode cX4_leastRules 53 = .ok (.iload_n 3, 1) := by decide +kernel
theorem dX4_leastRules_54 : decode cX4_leastRules 54 = .ok (.invokevirtual 57, 3) := by decide +kernel
theorem dX4_leastRules_57 : decode cX4_leastRules 57 = .ok (.lastore, 1) := by decide +kernel
theorem dX4_leastRules_58 : decode cX4_leastRules 58 = .ok (.iinc 3 1, 3) := by decide +kernel
theorem dX4_leastRules_61 : decode cX4_leastRules 61 = .ok (.goto (-21), 3) := by decide +kernel
theorem dX4_leastRules_64 : decode cX4_leastRules 64 = .ok (.bipush 16, 2) := by decide +kernel
theorem dX4_leastRules_66 : decode cX4_leastRules 66 = .ok (.istore_n 3, 1) := by decide +kernel
theorem dX4_leastRules_67 : decode cX4_leastRules 67 = .ok (.iload_n 3, 1) := by decide +kernel
theorem dX4_leastRules_68 : decode cX4_leastRules 68 = .ok (.ifCond .lt 20, 3) := by decide +kernel
theorem dX4_leastRules_71 : decode cX4_leastRules 71 = .ok (.aload_n 0, 1) := by decide +kernel
theorem dX4_leastRules_72 : decode cX4_leastRules 72 = .ok (.getfield 40, 3) := by decide +kernel
theorem dX4_leastRules_75 : decode cX4_leastRules 75 = .ok (.iload_n 3, 1) := by decide +kernel
theorem dX4_leastRules_76 : decode cX4_leastRules 76 = .ok (.aload_n 0, 1) := by decide +kernel
theorem dX4_leastRules_77 : decode cX4_leastRules 77 = .ok (.iload_n 3, 1) := by decide +kernel
theorem dX4_leastRules_78 : decode cX4_leastRules 78 = .ok (.invokevirtual 61, 3) := by decide +kernel
theorem dX4_leastRules_81 : decode cX4_leastRules 81 = .ok (.lastore, 1) := by decide +kernel
theorem dX4_leastRules_82 : decode cX4_leastRules 82 = .ok (.iinc 3 (-1), 3) := by decide +kernel
theorem dX4_leastRules_85 : decode cX4_leastRules 85 = .ok (.goto (-18), 3) := by decide +kernel
theorem dX4_leastRules_88 : decode cX4_leastRules 88 = .ok (.iinc 2 1, 3) := by decide +kernel
theorem dX4_leastRules_91 : decode cX4_leastRules 91 = .ok (.goto (-58), 3) := by decide +kernel
theorem dX4_leastRules_94 : decode cX4_leastRules 94 = .ok (.ldc2_w 55, 3) := by decide +kernel
theorem dX4_leastRules_97 : decode cX4_leastRules 97 = .ok (.lstore_n 2, 1) := by decide +kernel
theorem dX4_leastRules_98 : decode cX4_leastRules 98 = .ok (.iconst 0, 1) := by decide +kernel
theorem dX4_leastRules_99 : decode cX4_leastRules 99 = .ok (.istore 4, 2) := by decide +kernel
theorem dX4_leastRules_101 : decode cX4_leastRules 101 = .ok (.iload 4, 2) := by decide +kernel
theorem dX4_leastRules_103 : decode cX4_leastRules 103 = .ok (.iload_n 1, 1) := by decide +kernel
theorem dX4_leastRules_104 : decode cX4_leastRules 104 = .ok (.if_icmp .gt 28, 3) := by decide +kernel
theorem dX4_leastRules_107 : decode cX4_leastRules 107 = .ok (.iload 4, 2) := by decide +kernel
theorem dX4_leastRules_109 : decode cX4_leastRules 109 = .ok (.bipush 16, 2) := by decide +kernel
theorem dX4_leastRules_111 : decode cX4_leastRules 111 = .ok (.if_icmp .gt 21, 3) := by decide +kernel
theorem dX4_leastRules_114 : decode cX4_leastRules 114 = .ok (.lload_n 2, 1) := by decide +kernel
theorem dX4_leastRules_115 : decode cX4_leastRules 115 = .ok (.aload_n 0, 1) := by decide +kernel
theorem dX4_leastRules_116 : decode cX4_leastRules 116 = .ok (.getfield 40, 3) := by decide +kernel
theorem dX4_leastRules_119 : decode cX4_leastRules 119 = .ok (.iload 4, 2) := by decide +kernel
theorem dX4_leastRules_121 : decode cX4_leastRules 121 = .ok (.laload, 1) := by decide +kernel
theorem dX4_leastRules_122 : decode cX4_leastRules 122 = .ok (.invokestatic 65, 3) := by decide +kernel
theorem dX4_leastRules_125 : decode cX4_leastRules 125 = .ok (.lstore_n 2, 1) := by decide +kernel
theorem dX4_leastRules_126 : decode cX4_leastRules 126 = .ok (.iinc 4 1, 3) := by decide +kernel
theorem dX4_leastRules_129 : decode cX4_leastRules 129 = .ok (.goto (-28), 3) := by decide +kernel
theorem dX4_leastRules_132 : decode cX4_leastRules 132 = .ok (.lload_n 2, 1) := by decide +kernel
theorem dX4_leastRules_133 : decode cX4_leastRules 133 = .ok (.ldc2_w 71, 3) := by decide +kernel
theorem dX4_leastRules_136 : decode cX4_leastRules 136 = .ok (.land, 1) := by decide +kernel
theorem dX4_leastRules_137 : decode cX4_leastRules 137 = .ok (.l2i, 1) := by decide +kernel
theorem dX4_leastRules_138 : decode cX4_leastRules 138 = .ok (.ireturn, 1) := by decide +kernel
set_option maxRecDepth 20000 in
theorem ggX4_cheapestOf_J6_bitCount_0f7a4 : GoodIn wsX4_cheapestOf wsJ6_bitCount_0f7a4 := goodIn_r _ [11, 12, 13, 14] (by decide +kernel) (by decide +kernel)
set_option maxRecDepth 20000 in
theorem gX4_cheapestOf_J6_bitCount_0f7a4 : GoodIn wsX4_cheapestOf (va_wsS RX4 73 yJ6_bitCount_0f7a4 wsJ6_bitCount_0f7a4) := goodIn_app (goodIn_of _ (by decide +kernel)) ggX4_cheapestOf_J6_bitCount_0f7a4
theorem dX4_cheapestOf_0 : decode cX4_cheapestOf 0 = .ok (.ldc2_w 55, 3) := by decide +kernel
theorem dX4_cheapestOf_3 : decode cX4_cheapestOf 3 = .ok (.lstore_n 2, 1) := by decide +kernel
theorem dX4_cheapestOf_4 : decode cX4_cheapestOf 4 = .ok (.iconst 0, 1) := by decide +kernel
theorem dX4_cheapestOf_5 : decode cX4_cheapestOf 5 = .ok (.istore 4, 2) := by decide +kernel
theorem dX4_cheapestOf_7 : decode cX4_cheapestOf 7 = .ok (.iload 4, 2) := by decide +kernel
theorem dX4_cheapestOf_9 : decode cX4_cheapestOf 9 = .ok (.bipush 16, 2) := by decide +kernel
theorem dX4_cheapestOf_11 : decode cX4_cheapestOf 11 = .ok (.if_icmp .ge 64, 3) := by decide +kernel
theorem dX4_cheapestOf_14 : decode cX4_cheapestOf 14 = .ok (.iload_n 1, 1) := by decide +kernel
theorem dX4_cheapestOf_15 : decode cX4_cheapestOf 15 = .ok (.iload 4, 2) := by decide +kernel
theorem dX4_cheapestOf_17 : decode cX4_cheapestOf 17 = .ok (.invokestatic 73, 3) := by decide +kernel
theorem dX4_cheapestOf_20 : decode cX4_cheapestOf 20 = .ok (.isub, 1) := by decide +kernel
theorem dX4_cheapestOf_21 : decode cX4_cheapestOf 21 = .ok (.istore 5, 2) := by decide +kernel
theorem dX4_cheapestOf_23 : decode cX4_cheapestOf 23 = .ok (.iload 5, 2) := by decide +kernel
theorem dX4_cheapestOf_25 : decode cX4_cheapestOf 25 = .ok (.ifCond .lt 44, 3) := by decide +kernel
theorem dX4_cheapestOf_28 : decode cX4_cheapestOf 28 = .ok (.iload 5, 2) := by decide +kernel
theorem dX4_cheapestOf_30 : decode cX4_cheapestOf 30 = .ok (.bipush 16, 2) := by decide +kernel
theorem dX4_cheapestOf_32 : decode cX4_cheapestOf 32 = .ok (.if_icmp .gt 37, 3) := by decide +kernel
theorem dX4_cheapestOf_35 : decode cX4_cheapestOf 35 = .ok (.aload_n 0, 1) := by decide +kernel
theorem dX4_cheapestOf_36 : decode cX4_cheapestOf 36 = .ok (.getfield 40, 3) := by decide +kernel
theorem dX4_cheapestOf_39 : decode cX4_cheapestOf 39 = .ok (.iload 5, 2) := by decide +kernel
theorem dX4_cheapestOf_41 : decode cX4_cheapestOf 41 = .ok (.laload, 1) := by decide +kernel
theorem dX4_cheapestOf_42 : decode cX4_cheapestOf 42 = .ok (.ldc2_w 55, 3) := by decide +kernel
theorem dX4_cheapestOf_45 : decode cX4_cheapestOf 45 = .ok (.lcmp, 1) := by decide +kernel
theorem dX4_cheapestOf_46 : decode cX4_cheapestOf 46 = .ok (.ifCond .eq 23, 3) := by decide +kernel
theorem dX4_cheapestOf_49 : decode cX4_cheapestOf 49 = .ok (.lload_n 2, 1) := by decide +kernel
theorem dX4_cheapestOf_50 : decode cX4_cheapestOf 50 = .ok (.aload_n 0, 1) := by decide +kernel
theorem dX4_cheapestOf_51 : decode cX4_cheapestOf 51 = .ok (.getfield 40, 3) := by decide +kernel
theorem dX4_cheapestOf_54 : decode cX4_cheapestOf 54 = .ok (.iload 5, 2) := by decide +kernel
theorem dX4_cheapestOf_56 : decode cX4_cheapestOf 56 = .ok (.laload, 1) := by decide +kernel
theorem dX4_cheapestOf_57 : decode cX4_cheapestOf 57 = .ok (.aload_n 0, 1) := by decide +kernel
theorem dX4_cheapestOf_58 : decode cX4_cheapestOf 58 = .ok (.getfield 44, 3) := by decide +kernel
theorem dX4_cheapestOf_61 : decode cX4_cheapestOf 61 = .ok (.iload 4, 2) := by decide +kernel
theorem dX4_cheapestOf_63 : decode cX4_cheapestOf 63 = .ok (.laload, 1) := by decide +kernel
theorem dX4_cheapestOf_64 : decode cX4_cheapestOf 64 = .ok (.ladd, 1) := by decide +kernel
theorem dX4_cheapestOf_65 : decode cX4_cheapestOf 65 = .ok (.invokestatic 65, 3) := by decide +kernel
theorem dX4_cheapestOf_68 : decode cX4_cheapestOf 68 = .ok (.lstore_n 2, 1) := by decide +kernel
theorem dX4_cheapestOf_69 : decode cX4_cheapestOf 69 = .ok (.iinc 4 1, 3) := by decide +kernel
theorem dX4_cheapestOf_72 : decode cX4_cheapestOf 72 = .ok (.goto (-65), 3) := by decide +kernel
theorem dX4_cheapestOf_75 : decode cX4_cheapestOf 75 = .ok (.lload_n 2, 1) := by decide +kernel
theorem dX4_cheapestOf_76 : decode cX4_cheapestOf 76 = .ok (.lreturn, 1) := by decide +kernel
set_option maxRecDepth 20000 in
theorem ggX4_cost_X4_askedInVain : GoodIn wsX4_cost wsX4_askedInVain := goodIn_r _ [5, 6, 7, 8, 20, 21, 22, 23, 24, 25, 26, 27, 28, 29, 30] (by decide +kernel) (by decide +kernel)
set_option maxRecDepth 20000 in
theorem gX4_cost_X4_askedInVain : GoodIn wsX4_cost (wsV RX4 79 RX4 yX4_askedInVain wsX4_askedInVain) := goodIn_app (goodIn_of _ (by decide +kernel)) ggX4_cost_X4_askedInVain
set_option maxRecDepth 20000 in
theorem ggX4_cost_X4_askedAll : GoodIn wsX4_cost wsX4_askedAll := goodIn_r _ [12, 6, 7, 8, 20, 21, 22, 23, 24, 25, 26, 27, 28, 29, 30] (by decide +kernel) (by decide +kernel)
set_option maxRecDepth 20000 in
theorem gX4_cost_X4_askedAll : GoodIn wsX4_cost (wsV RX4 82 RX4 yX4_askedAll wsX4_askedAll) := goodIn_app (goodIn_of _ (by decide +kernel)) ggX4_cost_X4_askedAll
set_option maxRecDepth 20000 in
theorem ggX4_cost_J6_bitCount_0f7a4 : GoodIn wsX4_cost wsJ6_bitCount_0f7a4 := goodIn_r _ [16, 17, 18, 19] (by decide +kernel) (by decide +kernel)
set_option maxRecDepth 20000 in
theorem gX4_cost_J6_bitCount_0f7a4 : GoodIn wsX4_cost (va_wsS RX4 73 yJ6_bitCount_0f7a4 wsJ6_bitCount_0f7a4) := goodIn_app (goodIn_of _ (by decide +kernel)) ggX4_cost_J6_bitCount_0f7a4
theorem dX4_cost_0 : decode cX4_cost 0 = .ok (.aload_n 0, 1) := by decide +kernel
theorem dX4_cost_1 : decode cX4_cost 1 = .ok (.iload_n 1, 1) := by decide +kernel
theorem dX4_cost_2 : decode cX4_cost 2 = .ok (.iload_n 2, 1) := by decide +kernel
theorem dX4_cost_3 : decode cX4_cost 3 = .ok (.invokevirtual 79, 3) := by decide +kernel
theorem dX4_cost_6 : decode cX4_cost 6 = .ok (.i2l, 1) := by decide +kernel
theorem dX4_cost_7 : decode cX4_cost 7 = .ok (.lstore_n 3, 1) := by decide +kernel
theorem dX4_cost_8 : decode cX4_cost 8 = .ok (.aload_n 0, 1) := by decide +kernel
theorem dX4_cost_9 : decode cX4_cost 9 = .ok (.iload_n 1, 1) := by decide +kernel
theorem dX4_cost_10 : decode cX4_cost 10 = .ok (.iload_n 2, 1) := by decide +kernel
theorem dX4_cost_11 : decode cX4_cost 11 = .ok (.invokevirtual 82, 3) := by decide +kernel
theorem dX4_cost_14 : decode cX4_cost 14 = .ok (.i2l, 1) := by decide +kernel
theorem dX4_cost_15 : decode cX4_cost 15 = .ok (.lstore 5, 2) := by decide +kernel
theorem dX4_cost_17 : decode cX4_cost 17 = .ok (.iload_n 2, 1) := by decide +kernel
theorem dX4_cost_18 : decode cX4_cost 18 = .ok (.invokestatic 73, 3) := by decide +kernel
theorem dX4_cost_21 : decode cX4_cost 21 = .ok (.i2l, 1) := by decide +kernel
theorem dX4_cost_22 : decode cX4_cost 22 = .ok (.lstore 7, 2) := by decide +kernel
theorem dX4_cost_24 : decode cX4_cost 24 = .ok (.lload_n 3, 1) := by decide +kernel
theorem dX4_cost_25 : decode cX4_cost 25 = .ok (.bipush 24, 2) := by decide +kernel
theorem dX4_cost_27 : decode cX4_cost 27 = .ok (.lshl, 1) := by decide +kernel
theorem dX4_cost_28 : decode cX4_cost 28 = .ok (.lload 5, 2) := by decide +kernel
theorem dX4_cost_30 : decode cX4_cost 30 = .ok (.bipush 32, 2) := by decide +kernel
theorem dX4_cost_32 : decode cX4_cost 32 = .ok (.lshl, 1) := by decide +kernel
theorem dX4_cost_33 : decode cX4_cost 33 = .ok (.lsub, 1) := by decide +kernel
theorem dX4_cost_34 : decode cX4_cost 34 = .ok (.lload 7, 2) := by decide +kernel
theorem dX4_cost_36 : decode cX4_cost 36 = .ok (.bipush 16, 2) := by decide +kernel
theorem dX4_cost_38 : decode cX4_cost 38 = .ok (.lshl, 1) := by decide +kernel
theorem dX4_cost_39 : decode cX4_cost 39 = .ok (.ladd, 1) := by decide +kernel
theorem dX4_cost_40 : decode cX4_cost 40 = .ok (.iload_n 2, 1) := by decide +kernel
theorem dX4_cost_41 : decode cX4_cost 41 = .ok (.iconst 4, 1) := by decide +kernel
theorem dX4_cost_42 : decode cX4_cost 42 = .ok (.iload_n 1, 1) := by decide +kernel
theorem dX4_cost_43 : decode cX4_cost 43 = .ok (.imul, 1) := by decide +kernel
theorem dX4_cost_44 : decode cX4_cost 44 = .ok (.ishl, 1) := by decide +kernel
theorem dX4_cost_45 : decode cX4_cost 45 = .ok (.i2l, 1) := by decide +kernel
theorem dX4_cost_46 : decode cX4_cost 46 = .ok (.ladd, 1) := by decide +kernel
theorem dX4_cost_47 : decode cX4_cost 47 = .ok (.lreturn, 1) := by decide +kernel
theorem dX6_init_0 : decode cX6_init 0 = .ok (.aload_n 0, 1) := by decide +kernel
theorem dX6_init_1 : decode cX6_init 1 = .ok (.invokespecial 1, 3) := by decide +kernel
theorem dX6_init_4 : decode cX6_init 4 = .ok (.aload_n 0, 1) := by decide +kernel
theorem dX6_init_5 : decode cX6_init 5 = .ok (.iconst 0, 1) := by decide +kernel
theorem dX6_init_6 : decode cX6_init 6 = .ok (.putfield 7, 3) := by decide +kernel
theorem dX6_init_9 : decode cX6_init 9 = .ok (.aload_n 0, 1) := by decide +kernel
theorem dX6_init_10 : decode cX6_init 10 = .ok (.iconst 0, 1) := by decide +kernel
theorem dX6_init_11 : decode cX6_init 11 = .ok (.putfield 13, 3) := by decide +kernel
theorem dX6_init_14 : decode cX6_init 14 = .ok (.aload_n 0, 1) := by decide +kernel
theorem dX6_init_15 : decode cX6_init 15 = .ok (.bipush 12, 2) := by decide +kernel
theorem dX6_init_17 : decode cX6_init 17 = .ok (.newarray .int, 2) := by decide +kernel
theorem dX6_init_19 : decode cX6_init 19 = .ok (.putfield 16, 3) := by decide +kernel
theorem dX6_init_22 : decode cX6_init 22 = .ok (.aload_n 0, 1) := by decide +kernel
theorem dX6_init_23 : decode cX6_init 23 = .ok (.bipush 12, 2) := by decide +kernel
theorem dX6_init_25 : decode cX6_init 25 = .ok (.newarray .int, 2) := by decide +kernel
theorem dX6_init_27 : decode cX6_init 27 = .ok (.putfield 20, 3) := by decide +kernel
theorem dX6_init_30 : decode cX6_init 30 = .ok (.aload_n 0, 1) := by decide +kernel
theorem dX6_init_31 : decode cX6_init 31 = .ok (.bipush 12, 2) := by decide +kernel
theorem dX6_init_33 : decode cX6_init 33 = .ok (.newarray .int, 2) := by decide +kernel
theorem dX6_init_35 : decode cX6_init 35 = .ok (.putfield 23, 3) := by decide +kernel
theorem dX6_init_38 : decode cX6_init 38 = .ok (.aload_n 0, 1) := by decide +kernel
theorem dX6_init_39 : decode cX6_init 39 = .ok (.bipush 12, 2) := by decide +kernel
theorem dX6_init_41 : decode cX6_init 41 = .ok (.newarray .int, 2) := by decide +kernel
theorem dX6_init_43 : decode cX6_init 43 = .ok (.putfield 26, 3) := by decide +kernel
theorem dX6_init_46 : decode cX6_init 46 = .ok (.return_, 1) := by decide +kernel
theorem dX6_has_0 : decode cX6_has 0 = .ok (.iload_n 1, 1) := by decide +kernel
theorem dX6_has_1 : decode cX6_has 1 = .ok (.ifCond .lt 15, 3) := by decide +kernel
theorem dX6_has_4 : decode cX6_has 4 = .ok (.iload_n 1, 1) := by decide +kernel
theorem dX6_has_5 : decode cX6_has 5 = .ok (.aload_n 0, 1) := by decide +kernel
theorem dX6_has_6 : decode cX6_has 6 = .ok (.getfield 7, 3) := by decide +kernel
theorem dX6_has_9 : decode cX6_has 9 = .ok (.if_icmp .ge 7, 3) := by decide +kernel
theorem dX6_has_12 : decode cX6_has 12 = .ok (.iconst 1, 1) := by decide +kernel
theorem dX6_has_13 : decode cX6_has 13 = .ok (.goto 4, 3) := by decide +kernel
theorem dX6_has_16 : decode cX6_has 16 = .ok (.iconst 0, 1) := by decide +kernel
theorem dX6_has_17 : decode cX6_has 17 = .ok (.ireturn, 1) := by decide +kernel
theorem dX7_init_0 : decode cX7_init 0 = .ok (.aload_n 0, 1) := by decide +kernel
theorem dX7_init_1 : decode cX7_init 1 = .ok (.invokespecial 3, 3) := by decide +kernel
theorem dX7_init_4 : decode cX7_init 4 = .ok (.aload_n 0, 1) := by decide +kernel
theorem dX7_init_5 : decode cX7_init 5 = .ok (.iconst 0, 1) := by decide +kernel
theorem dX7_init_6 : decode cX7_init 6 = .ok (.putfield 9, 3) := by decide +kernel
theorem dX7_init_9 : decode cX7_init 9 = .ok (.aload_n 0, 1) := by decide +kernel
theorem dX7_init_10 : decode cX7_init 10 = .ok (.iconst 0, 1) := by decide +kernel
theorem dX7_init_11 : decode cX7_init 11 = .ok (.putfield 15, 3) := by decide +kernel
theorem dX7_init_14 : decode cX7_init 14 = .ok (.aload_n 0, 1) := by decide +kernel
theorem dX7_init_15 : decode cX7_init 15 = .ok (.iconst 0, 1) := by decide +kernel
theorem dX7_init_16 : decode cX7_init 16 = .ok (.putfield 19, 3) := by decide +kernel
theorem dX7_init_19 : decode cX7_init 19 = .ok (.aload_n 0, 1) := by decide +kernel
theorem dX7_init_20 : decode cX7_init 20 = .ok (.bipush 60, 2) := by decide +kernel
theorem dX7_init_22 : decode cX7_init 22 = .ok (.newarray .long, 2) := by decide +kernel
theorem dX7_init_24 : decode cX7_init 24 = .ok (.putfield 22, 3) := by decide +kernel
theorem dX7_init_27 : decode cX7_init 27 = .ok (.return_, 1) := by decide +kernel
theorem dX7_begin_0 : decode cX7_begin 0 = .ok (.aload_n 0, 1) := by decide +kernel
theorem dX7_begin_1 : decode cX7_begin 1 = .ok (.iconst 1, 1) := by decide +kernel
theorem dX7_begin_2 : decode cX7_begin 2 = .ok (.putfield 9, 3) := by decide +kernel
theorem dX7_begin_5 : decode cX7_begin 5 = .ok (.aload_n 0, 1) := by decide +kernel
theorem dX7_begin_6 : decode cX7_begin 6 = .ok (.iload_n 1, 1) := by decide +kernel
theorem dX7_begin_7 : decode cX7_begin 7 = .ok (.putfield 15, 3) := by decide +kernel
theorem dX7_begin_10 : decode cX7_begin 10 = .ok (.aload_n 0, 1) := by decide +kernel
theorem dX7_begin_11 : decode cX7_begin 11 = .ok (.iconst 0, 1) := by decide +kernel
theorem dX7_begin_12 : decode cX7_begin 12 = .ok (.iload_n 2, 1) := by decide +kernel
theorem dX7_begin_13 : decode cX7_begin 13 = .ok (.bipush 60, 2) := by decide +kernel
theorem dX7_begin_15 : decode cX7_begin 15 = .ok (.invokestatic 26, 3) := by decide +kernel
theorem dX7_begin_18 : decode cX7_begin 18 = .ok (.invokestatic 32, 3) := by decide +kernel
theorem dX7_begin_21 : decode cX7_begin 21 = .ok (.putfield 19, 3) := by decide +kernel
theorem dX7_begin_24 : decode cX7_begin 24 = .ok (.iconst 0, 1) := by decide +kernel
theorem dX7_begin_25 : decode cX7_begin 25 = .ok (.istore_n 3, 1) := by decide +kernel
theorem dX7_begin_26 : decode cX7_begin 26 = .ok (.iload_n 3, 1) := by decide +kernel
theorem dX7_begin_27 : decode cX7_begin 27 = .ok (.aload_n 0, 1) := by decide +kernel
theorem dX7_begin_28 : decode cX7_begin 28 = .ok (.getfield 22, 3) := by decide +kernel
theorem dX7_begin_31 : decode cX7_begin 31 = .ok (.arraylength, 1) := by decide +kernel
theorem dX7_begin_32 : decode cX7_begin 32 = .ok (.if_icmp .ge 16, 3) := by decide +kernel
theorem dX7_begin_35 : decode cX7_begin 35 = .ok (.aload_n 0, 1) := by decide +kernel
theorem dX7_begin_36 : decode cX7_begin 36 = .ok (.getfield 22, 3) := by decide +kernel
theorem dX7_begin_39 : decode cX7_begin 39 = .ok (.iload_n 3, 1) := by decide +kernel
theorem dX7_begin_40 : decode cX7_begin 40 = .ok (.lconst 0, 1) := by decide +kernel
theorem dX7_begin_41 : decode cX7_begin 41 = .ok (.lastore, 1) := by decide +kernel
theorem dX7_begin_42 : decode cX7_begin 42 = .ok (.iinc 3 1, 3) := by decide +kernel
theorem dX7_begin_45 : decode cX7_begin 45 = .ok (.goto (-19), 3) := by decide +kernel
theorem dX7_begin_48 : decode cX7_begin 48 = .ok (.return_, 1) := by decide +kernel
theorem dX8_init_0 : decode cX8_init 0 = .ok (.aload_n 0, 1) := by decide +kernel
theorem dX8_init_1 : decode cX8_init 1 = .ok (.invokespecial 3, 3) := by decide +kernel
theorem dX8_init_4 : decode cX8_init 4 = .ok (.aload_n 0, 1) := by decide +kernel
theorem dX8_init_5 : decode cX8_init 5 = .ok (.lconst 0, 1) := by decide +kernel
theorem dX8_init_6 : decode cX8_init 6 = .ok (.putfield 9, 3) := by decide +kernel
theorem dX8_init_9 : decode cX8_init 9 = .ok (.aload_n 0, 1) := by decide +kernel
theorem dX8_init_10 : decode cX8_init 10 = .ok (.iconst (-1), 1) := by decide +kernel
theorem dX8_init_11 : decode cX8_init 11 = .ok (.putfield 15, 3) := by decide +kernel
theorem dX8_init_14 : decode cX8_init 14 = .ok (.aload_n 0, 1) := by decide +kernel
theorem dX8_init_15 : decode cX8_init 15 = .ok (.lconst 0, 1) := by decide +kernel
theorem dX8_init_16 : decode cX8_init 16 = .ok (.putfield 19, 3) := by decide +kernel
theorem dX8_init_19 : decode cX8_init 19 = .ok (.aload_n 0, 1) := by decide +kernel
theorem dX8_init_20 : decode cX8_init 20 = .ok (.lconst 0, 1) := by decide +kernel
theorem dX8_init_21 : decode cX8_init 21 = .ok (.putfield 22, 3) := by decide +kernel
theorem dX8_init_24 : decode cX8_init 24 = .ok (.aload_n 0, 1) := by decide +kernel
theorem dX8_init_25 : decode cX8_init 25 = .ok (.iconst 1, 1) := by decide +kernel
theorem dX8_init_26 : decode cX8_init 26 = .ok (.putfield 25, 3) := by decide +kernel
theorem dX8_init_29 : decode cX8_init 29 = .ok (.aload_n 0, 1) := by decide +kernel
theorem dX8_init_30 : decode cX8_init 30 = .ok (.iconst 0, 1) := by decide +kernel
theorem dX8_init_31 : decode cX8_init 31 = .ok (.putfield 28, 3) := by decide +kernel
theorem dX8_init_34 : decode cX8_init 34 = .ok (.return_, 1) := by decide +kernel
theorem dX9_init_0 : decode cX9_init 0 = .ok (.aload_n 0, 1) := by decide +kernel
theorem dX9_init_1 : decode cX9_init 1 = .ok (.invokespecial 3, 3) := by decide +kernel
theorem dX9_init_4 : decode cX9_init 4 = .ok (.aload_n 0, 1) := by decide +kernel
theorem dX9_init_5 : decode cX9_init 5 = .ok (.sipush 1600, 3) := by decide +kernel
theorem dX9_init_8 : decode cX9_init 8 = .ok (.newarray .byte, 2) := by decide +kernel
theorem dX9_init_10 : decode cX9_init 10 = .ok (.putfield 9, 3) := by decide +kernel
theorem dX9_init_13 : decode cX9_init 13 = .ok (.aload_n 0, 1) := by decide +kernel
theorem dX9_init_14 : decode cX9_init 14 = .ok (.iconst 0, 1) := by decide +kernel
theorem dX9_init_15 : decode cX9_init 15 = .ok (.putfield 15, 3) := by decide +kernel
theorem dX9_init_18 : decode cX9_init 18 = .ok (.aload_n 0, 1) := by decide +kernel
theorem dX9_init_19 : decode cX9_init 19 = .ok (.iconst 0, 1) := by decide +kernel
theorem dX9_init_20 : decode cX9_init 20 = .ok (.putfield 19, 3) := by decide +kernel
theorem dX9_init_23 : decode cX9_init 23 = .ok (.aload_n 0, 1) := by decide +kernel
theorem dX9_init_24 : decode cX9_init 24 = .ok (.iconst 0, 1) := by decide +kernel
theorem dX9_init_25 : decode cX9_init 25 = .ok (.putfield 22, 3) := by decide +kernel
theorem dX9_init_28 : decode cX9_init 28 = .ok (.aload_n 0, 1) := by decide +kernel
theorem dX9_init_29 : decode cX9_init 29 = .ok (.iconst (-1), 1) := by decide +kernel
theorem dX9_init_30 : decode cX9_init 30 = .ok (.putfield 25, 3) := by decide +kernel
theorem dX9_init_33 : decode cX9_init 33 = .ok (.aload_n 0, 1) := by decide +kernel
theorem dX9_init_34 : decode cX9_init 34 = .ok (.iconst 0, 1) := by decide +kernel
theorem dX9_init_35 : decode cX9_init 35 = .ok (.putfield 28, 3) := by decide +kernel
theorem dX9_init_38 : decode cX9_init 38 = .ok (.aload_n 0, 1) := by decide +kernel
theorem dX9_init_39 : decode cX9_init 39 = .ok (.iconst 0, 1) := by decide +kernel
theorem dX9_init_40 : decode cX9_init 40 = .ok (.putfield 31, 3) := by decide +kernel
theorem dX9_init_43 : decode cX9_init 43 = .ok (.aload_n 0, 1) := by decide +kernel
theorem dX9_init_44 : decode cX9_init 44 = .ok (.iconst 0, 1) := by decide +kernel
theorem dX9_init_45 : decode cX9_init 45 = .ok (.putfield 34, 3) := by decide +kernel
theorem dX9_init_48 : decode cX9_init 48 = .ok (.return_, 1) := by decide +kernel
theorem dX9_hasSpace_0 : decode cX9_hasSpace 0 = .ok (.aload_n 0, 1) := by decide +kernel
theorem dX9_hasSpace_1 : decode cX9_hasSpace 1 = .ok (.getfield 15, 3) := by decide +kernel
theorem dX9_hasSpace_4 : decode cX9_hasSpace 4 = .ok (.iload_n 1, 1) := by decide +kernel
theorem dX9_hasSpace_5 : decode cX9_hasSpace 5 = .ok (.iadd, 1) := by decide +kernel
theorem dX9_hasSpace_6 : decode cX9_hasSpace 6 = .ok (.aload_n 0, 1) := by decide +kernel
theorem dX9_hasSpace_7 : decode cX9_hasSpace 7 = .ok (.getfield 9, 3) := by decide +kernel
theorem dX9_hasSpace_10 : decode cX9_hasSpace 10 = .ok (.arraylength, 1) := by decide +kernel
theorem dX9_hasSpace_11 : decode cX9_hasSpace 11 = .ok (.if_icmp .gt 7, 3) := by decide +kernel
theorem dX9_hasSpace_14 : decode cX9_hasSpace 14 = .ok (.iconst 1, 1) := by decide +kernel
theorem dX9_hasSpace_15 : decode cX9_hasSpace 15 = .ok (.goto 4, 3) := by decide +kernel
theorem dX9_hasSpace_18 : decode cX9_hasSpace 18 = .ok (.iconst 0, 1) := by decide +kernel
theorem dX9_hasSpace_19 : decode cX9_hasSpace 19 = .ok (.ireturn, 1) := by decide +kernel
theorem dX9_put_0 : decode cX9_put 0 = .ok (.bipush 24, 2) := by decide +kernel
theorem dX9_put_2 : decode cX9_put 2 = .ok (.istore_n 2, 1) := by decide +kernel
theorem dX9_put_3 : decode cX9_put 3 = .ok (.iload_n 2, 1) := by decide +kernel
theorem dX9_put_4 : decode cX9_put 4 = .ok (.ifCond .lt 44, 3) := by decide +kernel
theorem dX9_put_7 : decode cX9_put 7 = .ok (.aload_n 0, 1) := by decide +kernel
theorem dX9_put_8 : decode cX9_put 8 = .ok (.getfield 15, 3) := by decide +kernel
theorem dX9_put_11 : decode cX9_put 11 = .ok (.aload_n 0, 1) := by decide +kernel
theorem dX9_put_12 : decode cX9_put 12 = .ok (.getfield 9, 3) := by decide +kernel
theorem dX9_put_15 : decode cX9_put 15 = .ok (.arraylength, 1) := by decide +kernel
theorem dX9_put_16 : decode cX9_put 16 = .ok (.if_icmp .ge 32, 3) := by decide +kernel
theorem dX9_put_19 : decode cX9_put 19 = .ok (.aload_n 0, 1) := by decide +kernel
theorem dX9_put_20 : decode cX9_put 20 = .ok (.getfield 9, 3) := by decide +kernel
theorem dX9_put_23 : decode cX9_put 23 = .ok (.aload_n 0, 1) := by decide +kernel
theorem dX9_put_24 : decode cX9_put 24 = .ok (.getfield 15, 3) := by decide +kernel
theorem dX9_put_27 : decode cX9_put 27 = .ok (.iload_n 1, 1) := by decide +kernel
theorem dX9_put_28 : decode cX9_put 28 = .ok (.iload_n 2, 1) := by decide +kernel
theorem dX9_put_29 : decode cX9_put 29 = .ok (.ishr, 1) := by decide +kernel
theorem dX9_put_30 : decode cX9_put 30 = .ok (.i2b, 1) := by decide +kernel
theorem dX9_put_31 : decode cX9_put 31 = .ok (.bastore, 1) := by decide +kernel
theorem dX9_put_32 : decode cX9_put 32 = .ok (.aload_n 0, 1) := by decide +kernel
theorem dX9_put_33 : decode cX9_put 33 = .ok (.dup, 1) := by decide +kernel
theorem dX9_put_34 : decode cX9_put 34 = .ok (.getfield 15, 3) := by decide +kernel
theorem dX9_put_37 : decode cX9_put 37 = .ok (.iconst 1, 1) := by decide +kernel
theorem dX9_put_38 : decode cX9_put 38 = .ok (.iadd, 1) := by decide +kernel
theorem dX9_put_39 : decode cX9_put 39 = .ok (.putfield 15, 3) := by decide +kernel
theorem dX9_put_42 : decode cX9_put 42 = .ok (.iinc 2 (-8), 3) := by decide +kernel
theorem dX9_put_45 : decode cX9_put 45 = .ok (.goto (-42), 3) := by decide +kernel
theorem dX9_put_48 : decode cX9_put 48 = .ok (.return_, 1) := by decide +kernel
set_option maxRecDepth 20000 in
theorem ggX9_begin_X9_step : GoodIn wsX9_begin wsX9_step := goodIn_r _ [8, 1, 9, 10, 11, 12, 13, 14, 15, 16, 17, 18, 19, 20, 21, 22] (by decide +kernel) (by decide +kernel)
set_option maxRecDepth 20000 in
theorem gX9_begin_X9_step : GoodIn wsX9_begin (wsV RX9 37 RX9 yX9_step wsX9_step) := goodIn_app (goodIn_of _ (by decide +kernel)) ggX9_begin_X9_step
theorem dX9_begin_0 : decode cX9_begin 0 = .ok (.aload_n 0, 1) := by decide +kernel
theorem dX9_begin_1 : decode cX9_begin 1 = .ok (.iconst 0, 1) := by decide +kernel
theorem dX9_begin_2 : decode cX9_begin 2 = .ok (.putfield 31, 3) := by decide +kernel
theorem dX9_begin_5 : decode cX9_begin 5 = .ok (.aload_n 0, 1) := by decide +kernel
theorem dX9_begin_6 : decode cX9_begin 6 = .ok (.iconst 0, 1) := by decide +kernel
theorem dX9_begin_7 : decode cX9_begin 7 = .ok (.putfield 22, 3) := by decide +kernel
theorem dX9_begin_10 : decode cX9_begin 10 = .ok (.aload_n 0, 1) := by decide +kernel
theorem dX9_begin_11 : decode cX9_begin 11 = .ok (.iconst (-1), 1) := by decide +kernel
theorem dX9_begin_12 : decode cX9_begin 12 = .ok (.putfield 25, 3) := by decide +kernel
theorem dX9_begin_15 : decode cX9_begin 15 = .ok (.aload_n 0, 1) := by decide +kernel
theorem dX9_begin_16 : decode cX9_begin 16 = .ok (.invokevirtual 37, 3) := by decide +kernel
theorem dX9_begin_19 : decode cX9_begin 19 = .ok (.return_, 1) := by decide +kernel
theorem dX9_step_0 : decode cX9_step 0 = .ok (.aload_n 0, 1) := by decide +kernel
theorem dX9_step_1 : decode cX9_step 1 = .ok (.getfield 31, 3) := by decide +kernel
theorem dX9_step_4 : decode cX9_step 4 = .ok (.istore_n 1, 1) := by decide +kernel
theorem dX9_step_5 : decode cX9_step 5 = .ok (.iload_n 1, 1) := by decide +kernel
theorem dX9_step_6 : decode cX9_step 6 = .ok (.aload_n 0, 1) := by decide +kernel
theorem dX9_step_7 : decode cX9_step 7 = .ok (.getfield 15, 3) := by decide +kernel
theorem dX9_step_10 : decode cX9_step 10 = .ok (.if_icmp .ge 31, 3) := by decide +kernel
theorem dX9_step_13 : decode cX9_step 13 = .ok (.aload_n 0, 1) := by decide +kernel
theorem dX9_step_14 : decode cX9_step 14 = .ok (.getfield 9, 3) := by decide +kernel
theorem dX9_step_17 : decode cX9_step 17 = .ok (.iload_n 1, 1) := by decide +kernel
theorem dX9_step_18 : decode cX9_step 18 = .ok (.baload, 1) := by decide +kernel
theorem dX9_step_19 : decode cX9_step 19 = .ok (.bipush 32, 2) := by decide +kernel
theorem dX9_step_21 : decode cX9_step 21 = .ok (.if_icmp .eq 14, 3) := by decide +kernel
theorem dX9_step_24 : decode cX9_step 24 = .ok (.aload_n 0, 1) := by decide +kernel
theorem dX9_step_25 : decode cX9_step 25 = .ok (.getfield 9, 3) := by decide +kernel
theorem dX9_step_28 : decode cX9_step 28 = .ok (.iload_n 1, 1) := by decide +kernel
theorem dX9_step_29 : decode cX9_step 29 = .ok (.baload, 1) := by decide +kernel
theorem dX9_step_30 : decode cX9_step 30 = .ok (.bipush 10, 2) := by decide +kernel
theorem dX9_step_32 : decode cX9_step 32 = .ok (.if_icmp .ne 9, 3) := by decide +kernel
theorem dX9_step_35 : decode cX9_step 35 = .ok (.iinc 1 1, 3) := by decide +kernel
theorem dX9_step_38 : decode cX9_step 38 = .ok (.goto (-33), 3) := by decide +kernel
theorem dX9_step_41 : decode cX9_step 41 = .ok (.aload_n 0, 1) := by decide +kernel
theorem dX9_step_42 : decode cX9_step 42 = .ok (.iload_n 1, 1) := by decide +kernel
theorem dX9_step_43 : decode cX9_step 43 = .ok (.putfield 28, 3) := by decide +kernel
theorem dX9_step_46 : decode cX9_step 46 = .ok (.aload_n 0, 1) := by decide +kernel
theorem dX9_step_47 : decode cX9_step 47 = .ok (.iconst 0, 1) := by decide +kernel
theorem dX9_step_48 : decode cX9_step 48 = .ok (.putfield 34, 3) := by decide +kernel
theorem dX9_step_51 : decode cX9_step 51 = .ok (.iload_n 1, 1) := by decide +kernel
theorem dX9_step_52 : decode cX9_step 52 = .ok (.aload_n 0, 1) := by decide +kernel
theorem dX9_step_53 : decode cX9_step 53 = .ok (.getfield 15, 3) := by decide +kernel
theorem dX9_step_56 : decode cX9_step 56 = .ok (.if_icmp .ge 31, 3) := by decide +kernel
theorem dX9_step_59 : decode cX9_step 59 = .ok (.aload_n 0, 1) := by decide +kernel
theorem dX9_step_60 : decode cX9_step 60 = .ok (.getfield 9, 3) := by decide +kernel
theorem dX9_step_63 : decode cX9_step 63 = .ok (.iload_n 1, 1) := by decide +kernel
theorem dX9_step_64 : decode cX9_step 64 = .ok (.baload, 1) := by decide +kernel
theorem dX9_step_65 : decode cX9_step 65 = .ok (.bipush 97, 2) := by decide +kernel
theorem dX9_step_67 : decode cX9_step 67 = .ok (.if_icmp .lt 20, 3) := by decide +kernel
theorem dX9_step_70 : decode cX9_step 70 = .ok (.aload_n 0, 1) := by decide +kernel
theorem dX9_step_71 : decode cX9_step 71 = .ok (.getfield 9, 3) := by decide +kernel
theorem dX9_step_74 : decode cX9_step 74 = .ok (.iload_n 1, 1) := by decide +kernel
theorem dX9_step_75 : decode cX9_step 75 = .ok (.baload, 1) := by decide +kernel
theorem dX9_step_76 : decode cX9_step 76 = .ok (.bipush 122, 2) := by decide +kernel
theorem dX9_step_78 : decode cX9_step 78 = .ok (.if_icmp .gt 9, 3) := by decide +kernel
theorem dX9_step_81 : decode cX9_step 81 = .ok (.iinc 1 1, 3) := by decide +kernel
theorem dX9_step_84 : decode cX9_step 84 = .ok (.goto (-33), 3) := by decide +kernel
theorem dX9_step_87 : decode cX9_step 87 = .ok (.aload_n 0, 1) := by decide +kernel
theorem dX9_step_88 : decode cX9_step 88 = .ok (.iload_n 1, 1) := by decide +kernel
theorem dX9_step_89 : decode cX9_step 89 = .ok (.putfield 31, 3) := by decide +kernel
theorem dX9_step_92 : decode cX9_step 92 = .ok (.iload_n 1, 1) := by decide +kernel
theorem dX9_step_93 : decode cX9_step 93 = .ok (.aload_n 0, 1) := by decide +kernel
theorem dX9_step_94 : decode cX9_step 94 = .ok (.getfield 28, 3) := by decide +kernel
theorem dX9_step_97 : decode cX9_step 97 = .ok (.if_icmp .le 9, 3) := by decide +kernel
theorem dX9_step_100 : decode cX9_step 100 = .ok (.aload_n 0, 1) := by decide +kernel
theorem dX9_step_101 : decode cX9_step 101 = .ok (.iconst 1, 1) := by decide +kernel
theorem dX9_step_102 : decode cX9_step 102 = .ok (.putfield 19, 3) := by decide +kernel
theorem dX9_step_105 : decode cX9_step 105 = .ok (.return_, 1) := by decide +kernel
theorem dX9_step_106 : decode cX9_step 106 = .ok (.iload_n 1, 1) := by decide +kernel
theorem dX9_step_107 : decode cX9_step 107 = .ok (.aload_n 0, 1) := by decide +kernel
theorem dX9_step_108 : decode cX9_step 108 = .ok (.getfield 15, 3) := by decide +kernel
theorem dX9_step_111 : decode cX9_step 111 = .ok (.if_icmp .ge 68, 3) := by decide +kernel
theorem dX9_step_114 : decode cX9_step 114 = .ok (.aload_n 0, 1) := by decide +kernel
theorem dX9_step_115 : decode cX9_step 115 = .ok (.getfield 9, 3) := by decide +kernel
theorem dX9_step_118 : decode cX9_step 118 = .ok (.iload_n 1, 1) := by decide +kernel
theorem dX9_step_119 : decode cX9_step 119 = .ok (.baload, 1) := by decide +kernel
theorem dX9_step_120 : decode cX9_step 120 = .ok (.bipush 48, 2) := by decide +kernel
theorem dX9_step_122 : decode cX9_step 122 = .ok (.if_icmp .lt 57, 3) := by decide +kernel
theorem dX9_step_125 : decode cX9_step 125 = .ok (.aload_n 0, 1) := by decide +kernel
theorem dX9_step_126 : decode cX9_step 126 = .ok (.getfield 9, 3) := by decide +kernel
theorem dX9_step_129 : decode cX9_step 129 = .ok (.iload_n 1, 1) := by decide +kernel
theorem dX9_step_130 : decode cX9_step 130 = .ok (.baload, 1) := by decide +kernel
theorem dX9_step_131 : decode cX9_step 131 = .ok (.bipush 57, 2) := by decide +kernel
theorem dX9_step_133 : decode cX9_step 133 = .ok (.if_icmp .gt 46, 3) := by decide +kernel
theorem dX9_step_136 : decode cX9_step 136 = .ok (.aload_n 0, 1) := by decide +kernel
theorem dX9_step_137 : decode cX9_step 137 = .ok (.aload_n 0, 1) := by decide +kernel
theorem dX9_step_138 : decode cX9_step 138 = .ok (.getfield 34, 3) := by decide +kernel
theorem dX9_step_141 : decode cX9_step 141 = .ok (.ldc 40, 2) := by decide +kernel
theorem dX9_step_143 : decode cX9_step 143 = .ok (.if_icmp .ge 23, 3) := by decide +kernel
theorem dX9_step_146 : decode cX9_step 146 = .ok (.aload_n 0, 1) := by decide +kernel
theorem dX9_step_147 : decode cX9_step 147 = .ok (.getfield 34, 3) := by decide +kernel
theorem dX9_step_150 : decode cX9_step 150 = .ok (.bipush 10, 2) := by decide +kernel
theorem dX9_step_152 : decode cX9_step 152 = .ok (.imul, 1) := by decide +kernel
theorem dX9_step_153 : decode cX9_step 153 = .ok (.aload_n 0, 1) := by decide +kernel
theorem dX9_step_154 : decode cX9_step 154 = .ok (.getfield 9, 3) := by decide +kernel
theorem dX9_step_157 : decode cX9_step 157 = .ok (.iload_n 1, 1) := by decide +kernel
theorem dX9_step_158 : decode cX9_step 158 = .ok (.baload, 1) := by decide +kernel
theorem dX9_step_159 : decode cX9_step 159 = .ok (.iadd, 1) := by decide +kernel
theorem dX9_step_160 : decode cX9_step 160 = .ok (.bipush 48, 2) := by decide +kernel
theorem dX9_step_162 : decode cX9_step 162 = .ok (.isub, 1) := by decide +kernel
theorem dX9_step_163 : decode cX9_step 163 = .ok (.goto 7, 3) := by decide +kernel
theorem dX9_step_166 : decode cX9_step 166 = .ok (.aload_n 0, 1) := by decide +kernel
theorem dX9_step_167 : decode cX9_step 167 = .ok (.getfield 34, 3) := by decide +kernel
theorem dX9_step_170 : decode cX9_step 170 = .ok (.putfield 34, 3) := by decide +kernel
theorem dX9_step_173 : decode cX9_step 173 = .ok (.iinc 1 1, 3) := by decide +kernel
theorem dX9_step_176 : decode cX9_step 176 = .ok (.goto (-70), 3) := by decide +kernel
theorem dX9_step_179 : decode cX9_step 179 = .ok (.aload_n 0, 1) := by decide +kernel
theorem dX9_step_180 : decode cX9_step 180 = .ok (.iload_n 1, 1) := by decide +kernel
theorem dX9_step_181 : decode cX9_step 181 = .ok (.putfield 31, 3) := by decide +kernel
theorem dX9_step_184 : decode cX9_step 184 = .ok (.iload_n 1, 1) := by decide +kernel
theorem dX9_step_185 : decode cX9_step 185 = .ok (.aload_n 0, 1) := by decide +kernel
theorem dX9_step_186 : decode cX9_step 186 = .ok (.getfield 28, 3) := by decide +kernel
theorem dX9_step_189 : decode cX9_step 189 = .ok (.if_icmp .le 11, 3) := by decide +kernel
theorem dX9_step_192 : decode cX9_step 192 = .ok (.aload_n 0, 1) := by decide +kernel
theorem dX9_step_193 : decode cX9_step 193 = .ok (.iconst 2, 1) := by decide +kernel
theorem dX9_step_194 : decode cX9_step 194 = .ok (.putfield 19, 3) := by decide +kernel
theorem dX9_step_197 : decode cX9_step 197 = .ok (.goto 46, 3) := by decide +kernel
theorem dX9_step_200 : decode cX9_step 200 = .ok (.iload_n 1, 1) := by decide +kernel
theorem dX9_step_201 : decode cX9_step 201 = .ok (.aload_n 0, 1) := by decide +kernel
theorem dX9_step_202 : decode cX9_step 202 = .ok (.getfield 15, 3) := by decide +kernel
theorem dX9_step_205 : decode cX9_step 205 = .ok (.if_icmp .lt 11, 3) := by decide +kernel
theorem dX9_step_208 : decode cX9_step 208 = .ok (.aload_n 0, 1) := by decide +kernel
theorem dX9_step_209 : decode cX9_step 209 = .ok (.iconst 0, 1) := by decide +kernel
theorem dX9_step_210 : decode cX9_step 210 = .ok (.putfield 19, 3) := by decide +kernel
theorem dX9_step_213 : decode cX9_step 213 = .ok (.goto 30, 3) := by decide +kernel
theorem dX9_step_216 : decode cX9_step 216 = .ok (.aload_n 0, 1) := by decide +kernel
theorem dX9_step_217 : decode cX9_step 217 = .ok (.aload_n 0, 1) := by decide +kernel
theorem dX9_step_218 : decode cX9_step 218 = .ok (.getfield 9, 3) := by decide +kernel
theorem dX9_step_221 : decode cX9_step 221 = .ok (.iload_n 1, 1) := by decide +kernel
theorem dX9_step_222 : decode cX9_step 222 = .ok (.baload, 1) := by decide +kernel
theorem dX9_step_223 : decode cX9_step 223 = .ok (.bipush 59, 2) := by decide +kernel
theorem dX9_step_225 : decode cX9_step 225 = .ok (.if_icmp .ne 7, 3) := by decide +kernel
theorem dX9_step_228 : decode cX9_step 228 = .ok (.iconst 3, 1) := by decide +kernel
theorem dX9_step_229 : decode cX9_step 229 = .ok (.goto 4, 3) := by decide +kernel
theorem dX9_step_232 : decode cX9_step 232 = .ok (.iconst 4, 1) := by decide +kernel
theorem dX9_step_233 : decode cX9_step 233 = .ok (.putfield 19, 3) := by decide +kernel
theorem dX9_step_236 : decode cX9_step 236 = .ok (.aload_n 0, 1) := by decide +kernel
theorem dX9_step_237 : decode cX9_step 237 = .ok (.iload_n 1, 1) := by decide +kernel
theorem dX9_step_238 : decode cX9_step 238 = .ok (.iconst 1, 1) := by decide +kernel
theorem dX9_step_239 : decode cX9_step 239 = .ok (.iadd, 1) := by decide +kernel
theorem dX9_step_240 : decode cX9_step 240 = .ok (.putfield 31, 3) := by decide +kernel
theorem dX9_step_243 : decode cX9_step 243 = .ok (.return_, 1) := by decide +kernel
theorem dX9_goesOn_0 : decode cX9_goesOn 0 = .ok (.aload_n 0, 1) := by decide +kernel
theorem dX9_goesOn_1 : decode cX9_goesOn 1 = .ok (.getfield 22, 3) := by decide +kernel
theorem dX9_goesOn_4 : decode cX9_goesOn 4 = .ok (.ifCond .ne 14, 3) := by decide +kernel
theorem dX9_goesOn_7 : decode cX9_goesOn 7 = .ok (.aload_n 0, 1) := by decide +kernel
theorem dX9_goesOn_8 : decode cX9_goesOn 8 = .ok (.getfield 19, 3) := by decide +kernel
theorem dX9_goesOn_11 : decode cX9_goesOn 11 = .ok (.ifCond .eq 7, 3) := by decide +kernel
theorem dX9_goesOn_14 : decode cX9_goesOn 14 = .ok (.iconst 1, 1) := by decide +kernel
theorem dX9_goesOn_15 : decode cX9_goesOn 15 = .ok (.goto 4, 3) := by decide +kernel
theorem dX9_goesOn_18 : decode cX9_goesOn 18 = .ok (.iconst 0, 1) := by decide +kernel
theorem dX9_goesOn_19 : decode cX9_goesOn 19 = .ok (.ireturn, 1) := by decide +kernel
set_option maxRecDepth 20000 in
theorem ggX10_init_X1_init : GoodIn wsX10_init wsX1_init := goodIn_r _ [28, 29, 2, 3, 30, 31, 22, 32, 33, 34, 59, 60, 61, 62, 63] (by decide +kernel) (by decide +kernel)
set_option maxRecDepth 20000 in
theorem gX10_init_X1_init_n11 : GoodIn wsX10_init (wsX1_init) := ggX10_init_X1_init
set_option maxRecDepth 20000 in
theorem ggX10_init_X6_init : GoodIn wsX10_init wsX6_init := goodIn_r _ [36, 37, 2, 3, 38, 39, 22, 40, 41, 42, 43, 76, 77, 78, 79, 80, 81] (by decide +kernel) (by decide +kernel)
set_option maxRecDepth 20000 in
theorem gX10_init_X6_init_n20 : GoodIn wsX10_init (wsX6_init) := ggX10_init_X6_init
set_option maxRecDepth 20000 in
theorem ggX10_init_X4_init : GoodIn wsX10_init wsX4_init := goodIn_r _ [45, 46, 2, 3, 47, 48, 49, 22, 50, 51, 52, 53, 54, 55, 56, 57, 58, 82, 83, 84, 85, 86, 87, 88, 89, 90, 91, 92] (by decide +kernel) (by decide +kernel)
set_option maxRecDepth 20000 in
theorem gX10_init_X4_init_n27 : GoodIn wsX10_init (wsX4_init) := ggX10_init_X4_init
theorem dX10_init_0 : decode cX10_init 0 = .ok (.aload_n 0, 1) := by decide +kernel
theorem dX10_init_1 : decode cX10_init 1 = .ok (.invokespecial 3, 3) := by decide +kernel
theorem dX10_init_4 : decode cX10_init 4 = .ok (.aload_n 0, 1) := by decide +kernel
theorem dX10_init_5 : decode cX10_init 5 = .ok (.new 9, 3) := by decide +kernel
theorem dX10_init_8 : decode cX10_init 8 = .ok (.dup, 1) := by decide +kernel
theorem dX10_init_9 : decode cX10_init 9 = .ok (.invokespecial 11, 3) := by decide +kernel
theorem dX10_init_12 : decode cX10_init 12 = .ok (.putfield 12, 3) := by decide +kernel
theorem dX10_init_15 : decode cX10_init 15 = .ok (.aload_n 0, 1) := by decide +kernel
theorem dX10_init_16 : decode cX10_init 16 = .ok (.new 18, 3) := by decide +kernel
theorem dX10_init_19 : decode cX10_init 19 = .ok (.dup, 1) := by decide +kernel
theorem dX10_init_20 : decode cX10_init 20 = .ok (.invokespecial 20, 3) := by decide +kernel
theorem dX10_init_23 : decode cX10_init 23 = .ok (.putfield 21, 3) := by decide +kernel
theorem dX10_init_26 : decode cX10_init 26 = .ok (.aload_n 0, 1) := by decide +kernel
theorem dX10_init_27 : decode cX10_init 27 = .ok (.new 25, 3) := by decide +kernel
theorem dX10_init_30 : decode cX10_init 30 = .ok (.dup, 1) := by decide +kernel
theorem dX10_init_31 : decode cX10_init 31 = .ok (.invokespecial 27, 3) := by decide +kernel
theorem dX10_init_34 : decode cX10_init 34 = .ok (.putfield 28, 3) := by decide +kernel
theorem dX10_init_37 : decode cX10_init 37 = .ok (.aload_n 0, 1) := by decide +kernel
theorem dX10_init_38 : decode cX10_init 38 = .ok (.iconst 0, 1) := by decide +kernel
theorem dX10_init_39 : decode cX10_init 39 = .ok (.putfield 32, 3) := by decide +kernel
theorem dX10_init_42 : decode cX10_init 42 = .ok (.aload_n 0, 1) := by decide +kernel
theorem dX10_init_43 : decode cX10_init 43 = .ok (.iconst 0, 1) := by decide +kernel
theorem dX10_init_44 : decode cX10_init 44 = .ok (.putfield 36, 3) := by decide +kernel
theorem dX10_init_47 : decode cX10_init 47 = .ok (.aload_n 0, 1) := by decide +kernel
theorem dX10_init_48 : decode cX10_init 48 = .ok (.iconst 0, 1) := by decide +kernel
theorem dX10_init_49 : decode cX10_init 49 = .ok (.putfield 39, 3) := by decide +kernel
theorem dX10_init_52 : decode cX10_init 52 = .ok (.aload_n 0, 1) := by decide +kernel
theorem dX10_init_53 : decode cX10_init 53 = .ok (.iconst 0, 1) := by decide +kernel
theorem dX10_init_54 : decode cX10_init 54 = .ok (.putfield 42, 3) := by decide +kernel
theorem dX10_init_57 : decode cX10_init 57 = .ok (.aload_n 0, 1) := by decide +kernel
theorem dX10_init_58 : decode cX10_init 58 = .ok (.iconst 0, 1) := by decide +kernel
theorem dX10_init_59 : decode cX10_init 59 = .ok (.putfield 46, 3) := by decide +kernel
theorem dX10_init_62 : decode cX10_init 62 = .ok (.aload_n 0, 1) := by decide +kernel
theorem dX10_init_63 : decode cX10_init 63 = .ok (.iconst 0, 1) := by decide +kernel
theorem dX10_init_64 : decode cX10_init 64 = .ok (.putfield 49, 3) := by decide +kernel
theorem dX10_init_67 : decode cX10_init 67 = .ok (.aload_n 0, 1) := by decide +kernel
theorem dX10_init_68 : decode cX10_init 68 = .ok (.bipush 8, 2) := by decide +kernel
theorem dX10_init_70 : decode cX10_init 70 = .ok (.newarray .int, 2) := by decide +kernel
theorem dX10_init_72 : decode cX10_init 72 = .ok (.putfield 52, 3) := by decide +kernel
theorem dX10_init_75 : decode cX10_init 75 = .ok (.aload_n 0, 1) := by decide +kernel
theorem dX10_init_76 : decode cX10_init 76 = .ok (.bipush 8, 2) := by decide +kernel
theorem dX10_init_78 : decode cX10_init 78 = .ok (.newarray .int, 2) := by decide +kernel
theorem dX10_init_80 : decode cX10_init 80 = .ok (.putfield 56, 3) := by decide +kernel
theorem dX10_init_83 : decode cX10_init 83 = .ok (.aload_n 0, 1) := by decide +kernel
theorem dX10_init_84 : decode cX10_init 84 = .ok (.bipush 12, 2) := by decide +kernel
theorem dX10_init_86 : decode cX10_init 86 = .ok (.anewarray 59, 3) := by decide +kernel
theorem dX10_init_89 : decode cX10_init 89 = .ok (.putfield 61, 3) := by decide +kernel
theorem dX10_init_92 : decode cX10_init 92 = .ok (.return_, 1) := by decide +kernel
theorem dX10_hasPot_0 : decode cX10_hasPot 0 = .ok (.iload_n 1, 1) := by decide +kernel
theorem dX10_hasPot_1 : decode cX10_hasPot 1 = .ok (.ifCond .lt 15, 3) := by decide +kernel
theorem dX10_hasPot_4 : decode cX10_hasPot 4 = .ok (.iload_n 1, 1) := by decide +kernel
theorem dX10_hasPot_5 : decode cX10_hasPot 5 = .ok (.aload_n 0, 1) := by decide +kernel
theorem dX10_hasPot_6 : decode cX10_hasPot 6 = .ok (.getfield 36, 3) := by decide +kernel
theorem dX10_hasPot_9 : decode cX10_hasPot 9 = .ok (.if_icmp .ge 7, 3) := by decide +kernel
theorem dX10_hasPot_12 : decode cX10_hasPot 12 = .ok (.iconst 1, 1) := by decide +kernel
theorem dX10_hasPot_13 : decode cX10_hasPot 13 = .ok (.goto 4, 3) := by decide +kernel
theorem dX10_hasPot_16 : decode cX10_hasPot 16 = .ok (.iconst 0, 1) := by decide +kernel
theorem dX10_hasPot_17 : decode cX10_hasPot 17 = .ok (.ireturn, 1) := by decide +kernel
theorem dX10_pipeAt_0 : decode cX10_pipeAt 0 = .ok (.iload_n 1, 1) := by decide +kernel
theorem dX10_pipeAt_1 : decode cX10_pipeAt 1 = .ok (.ifCond .lt 26, 3) := by decide +kernel
theorem dX10_pipeAt_4 : decode cX10_pipeAt 4 = .ok (.iload_n 1, 1) := by decide +kernel
theorem dX10_pipeAt_5 : decode cX10_pipeAt 5 = .ok (.aload_n 0, 1) := by decide +kernel
theorem dX10_pipeAt_6 : decode cX10_pipeAt 6 = .ok (.getfield 39, 3) := by decide +kernel
theorem dX10_pipeAt_9 : decode cX10_pipeAt 9 = .ok (.if_icmp .ge 18, 3) := by decide +kernel
theorem dX10_pipeAt_12 : decode cX10_pipeAt 12 = .ok (.iload_n 1, 1) := by decide +kernel
theorem dX10_pipeAt_13 : decode cX10_pipeAt 13 = .ok (.bipush 12, 2) := by decide +kernel
theorem dX10_pipeAt_15 : decode cX10_pipeAt 15 = .ok (.if_icmp .ge 12, 3) := by decide +kernel
theorem dX10_pipeAt_18 : decode cX10_pipeAt 18 = .ok (.aload_n 0, 1) := by decide +kernel
theorem dX10_pipeAt_19 : decode cX10_pipeAt 19 = .ok (.getfield 61, 3) := by decide +kernel
theorem dX10_pipeAt_22 : decode cX10_pipeAt 22 = .ok (.iload_n 1, 1) := by decide +kernel
theorem dX10_pipeAt_23 : decode cX10_pipeAt 23 = .ok (.aaload, 1) := by decide +kernel
theorem dX10_pipeAt_24 : decode cX10_pipeAt 24 = .ok (.goto 4, 3) := by decide +kernel
theorem dX10_pipeAt_27 : decode cX10_pipeAt 27 = .ok (.aconst_null, 1) := by decide +kernel
theorem dX10_pipeAt_28 : decode cX10_pipeAt 28 = .ok (.areturn, 1) := by decide +kernel
set_option maxRecDepth 20000 in
theorem ggX11_init_X9_init : GoodIn wsX11_init wsX9_init := goodIn_r _ [38, 39, 2, 3, 40, 41, 42, 43, 44, 45, 46, 47, 48, 145, 146, 147, 148, 149, 150, 151, 152] (by decide +kernel) (by decide +kernel)
set_option maxRecDepth 20000 in
theorem gX11_init_X9_init_n9 : GoodIn wsX11_init (wsX9_init) := ggX11_init_X9_init
set_option maxRecDepth 20000 in
theorem ggX11_init_X7_init : GoodIn wsX11_init wsX7_init := goodIn_r _ [50, 51, 2, 3, 52, 53, 54, 55, 56, 164, 165, 166, 167] (by decide +kernel) (by decide +kernel)
set_option maxRecDepth 20000 in
theorem gX11_init_X7_init_n24 : GoodIn wsX11_init (wsX7_init) := ggX11_init_X7_init
set_option maxRecDepth 20000 in
theorem ggX11_init_X8_init : GoodIn wsX11_init wsX8_init := goodIn_r _ [58, 59, 2, 3, 60, 61, 62, 63, 64, 65, 168, 169, 170, 171, 172, 173] (by decide +kernel) (by decide +kernel)
set_option maxRecDepth 20000 in
theorem gX11_init_X8_init_n31 : GoodIn wsX11_init (wsX8_init) := ggX11_init_X8_init
set_option maxRecDepth 20000 in
theorem ggX11_init_X1_init : GoodIn wsX11_init wsX1_init := goodIn_r _ [67, 68, 2, 3, 69, 70, 30, 71, 72, 73, 174, 175, 176, 177, 178] (by decide +kernel) (by decide +kernel)
set_option maxRecDepth 20000 in
theorem gX11_init_X1_init_n38 : GoodIn wsX11_init (wsX1_init) := ggX11_init_X1_init
set_option maxRecDepth 20000 in
theorem ggX11_init_X3_init : GoodIn wsX11_init wsX3_init := goodIn_r _ [75, 76, 2, 3, 77, 78, 79, 80, 81, 82, 83, 30, 84, 85, 86, 87, 179, 180, 181, 182, 183, 184, 185, 186, 187, 188, 189] (by decide +kernel) (by decide +kernel)
set_option maxRecDepth 20000 in
theorem gX11_init_X3_init_n45 : GoodIn wsX11_init (wsX3_init) := ggX11_init_X3_init
set_option maxRecDepth 20000 in
theorem ggX11_init_X0_init : GoodIn wsX11_init wsX0_init := goodIn_r _ [89, 90, 2, 3, 91, 92, 93, 94, 95, 96, 97, 30, 98, 190, 191, 192, 193, 194, 195, 196, 197] (by decide +kernel) (by decide +kernel)
set_option maxRecDepth 20000 in
theorem gX11_init_X0_init_n52 : GoodIn wsX11_init (wsX0_init) := ggX11_init_X0_init
set_option maxRecDepth 20000 in
theorem ggX11_init_X10_init : GoodIn wsX11_init wsX10_init := goodIn_r _ [100, 101, 2, 3, 102, 19, 20, 103, 104, 105, 106, 107, 108, 109, 110, 111, 112, 113, 114, 115, 116, 117, 30, 118, 119, 120, 121, 66, 67, 68, 69, 70, 71, 72, 73, 122, 123, 124, 125, 126, 127, 128, 129, 130, 131, 132, 133, 134, 135, 136, 137, 138, 139, 140, 141, 142, 55, 143, 144, 174, 175, 176, 177, 178, 198, 199, 200, 201, 202, 203, 204, 205, 206, 207, 208, 209, 210, 211, 212, 213, 214, 215, 216, 217, 218, 219, 220, 221, 222, 223, 224, 225, 226] (by decide +kernel) (by decide +kernel)
set_option maxRecDepth 20000 in
theorem gX11_init_X10_init_n61 : GoodIn wsX11_init (wsX10_init) := ggX11_init_X10_init
theorem dX11_init_0 : decode cX11_init 0 = .ok (.aload_n 0, 1) := by decide +kernel
theorem dX11_init_1 : decode cX11_init 1 = .ok (.invokespecial 1, 3) := by decide +kernel
theorem dX11_init_4 : decode cX11_init 4 = .ok (.aload_n 0, 1) := by decide +kernel
theorem dX11_init_5 : decode cX11_init 5 = .ok (.new 7, 3) := by decide +kernel
theorem dX11_init_8 : decode cX11_init 8 = .ok (.dup, 1) := by decide +kernel
theorem dX11_init_9 : decode cX11_init 9 = .ok (.invokespecial 9, 3) := by decide +kernel
theorem dX11_init_12 : decode cX11_init 12 = .ok (.putfield 10, 3) := by decide +kernel
theorem dX11_init_15 : decode cX11_init 15 = .ok (.aload_n 0, 1) := by decide +kernel
theorem dX11_init_16 : decode cX11_init 16 = .ok (.iconst 3, 1) := by decide +kernel
theorem dX11_init_17 : decode cX11_init 17 = .ok (.anewarray 16, 3) := by decide +kernel
theorem dX11_init_20 : decode cX11_init 20 = .ok (.putfield 18, 3) := by decide +kernel
theorem dX11_init_23 : decode cX11_init 23 = .ok (.aload_n 0, 1) := by decide +kernel
theorem dX11_init_24 : decode cX11_init 24 = .ok (.iconst 4, 1) := by decide +kernel
theorem dX11_init_25 : decode cX11_init 25 = .ok (.anewarray 22, 3) := by decide +kernel
theorem dX11_init_28 : decode cX11_init 28 = .ok (.dup, 1) := by decide +kernel
theorem dX11_init_29 : decode cX11_init 29 = .ok (.iconst 0, 1) := by decide +kernel
theorem dX11_init_30 : decode cX11_init 30 = .ok (.new 22, 3) := by decide +kernel
theorem dX11_init_33 : decode cX11_init 33 = .ok (.dup, 1) := by decide +kernel
theorem dX11_init_34 : decode cX11_init 34 = .ok (.invokespecial 24, 3) := by decide +kernel
theorem dX11_init_37 : decode cX11_init 37 = .ok (.aastore, 1) := by decide +kernel
theorem dX11_init_38 : decode cX11_init 38 = .ok (.dup, 1) := by decide +kernel
theorem dX11_init_39 : decode cX11_init 39 = .ok (.iconst 1, 1) := by decide +kernel
theorem dX11_init_40 : decode cX11_init 40 = .ok (.new 22, 3) := by decide +kernel
theorem dX11_init_43 : decode cX11_init 43 = .ok (.dup, 1) := by decide +kernel
theorem dX11_init_44 : decode cX11_init 44 = .ok (.invokespecial 24, 3) := by decide +kernel
theorem dX11_init_47 : decode cX11_init 47 = .ok (.aastore, 1) := by decide +kernel
theorem dX11_init_48 : decode cX11_init 48 = .ok (.dup, 1) := by decide +kernel
theorem dX11_init_49 : decode cX11_init 49 = .ok (.iconst 2, 1) := by decide +kernel
theorem dX11_init_50 : decode cX11_init 50 = .ok (.new 22, 3) := by decide +kernel
theorem dX11_init_53 : decode cX11_init 53 = .ok (.dup, 1) := by decide +kernel
theorem dX11_init_54 : decode cX11_init 54 = .ok (.invokespecial 24, 3) := by decide +kernel
theorem dX11_init_57 : decode cX11_init 57 = .ok (.aastore, 1) := by decide +kernel
theorem dX11_init_58 : decode cX11_init 58 = .ok (.dup, 1) := by decide +kernel
theorem dX11_init_59 : decode cX11_init 59 = .ok (.iconst 3, 1) := by decide +kernel
theorem dX11_init_60 : decode cX11_init 60 = .ok (.new 22, 3) := by decide +kernel
theorem dX11_init_63 : decode cX11_init 63 = .ok (.dup, 1) := by decide +kernel
theorem dX11_init_64 : decode cX11_init 64 = .ok (.invokespecial 24, 3) := by decide +kernel
theorem dX11_init_67 : decode cX11_init 67 = .ok (.aastore, 1) := by decide +kernel
theorem dX11_init_68 : decode cX11_init 68 = .ok (.putfield 25, 3) := by decide +kernel
theorem dX11_init_71 : decode cX11_init 71 = .ok (.aload_n 0, 1) := by decide +kernel
theorem dX11_init_72 : decode cX11_init 72 = .ok (.new 29, 3) := by decide +kernel
theorem dX11_init_75 : decode cX11_init 75 = .ok (.dup, 1) := by decide +kernel
theorem dX11_init_76 : decode cX11_init 76 = .ok (.invokespecial 31, 3) := by decide +kernel
theorem dX11_init_79 : decode cX11_init 79 = .ok (.putfield 32, 3) := by decide +kernel
theorem dX11_init_82 : decode cX11_init 82 = .ok (.aload_n 0, 1) := by decide +kernel
theorem dX11_init_83 : decode cX11_init 83 = .ok (.new 36, 3) := by decide +kernel
theorem dX11_init_86 : decode cX11_init 86 = .ok (.dup, 1) := by decide +kernel
theorem dX11_init_87 : decode cX11_init 87 = .ok (.invokespecial 38, 3) := by decide +kernel
theorem dX11_init_90 : decode cX11_init 90 = .ok (.putfield 39, 3) := by decide +kernel
theorem dX11_init_93 : decode cX11_init 93 = .ok (.aload_n 0, 1) := by decide +kernel
theorem dX11_init_94 : decode cX11_init 94 = .ok (.new 43, 3) := by decide +kernel
theorem dX11_init_97 : decode cX11_init 97 = .ok (.dup, 1) := by decide +kernel
theorem dX11_init_98 : decode cX11_init 98 = .ok (.invokespecial 45, 3) := by decide +kernel
theorem dX11_init_101 : decode cX11_init 101 = .ok (.putfield 46, 3) := by decide +kernel
theorem dX11_init_104 : decode cX11_init 104 = .ok (.aload_n 0, 1) := by decide +kernel
theorem dX11_init_105 : decode cX11_init 105 = .ok (.new 50, 3) := by decide +kernel
theorem dX11_init_108 : decode cX11_init 108 = .ok (.dup, 1) := by decide +kernel
theorem dX11_init_109 : decode cX11_init 109 = .ok (.invokespecial 52, 3) := by decide +kernel
theorem dX11_init_112 : decode cX11_init 112 = .ok (.putfield 53, 3) := by decide +kernel
theorem dX11_init_115 : decode cX11_init 115 = .ok (.aload_n 0, 1) := by decide +kernel
theorem dX11_init_116 : decode cX11_init 116 = .ok (.sipush 1000, 3) := by decide +kernel
theorem dX11_init_119 : decode cX11_init 119 = .ok (.newarray .int, 2) := by decide +kernel
theorem dX11_init_121 : decode cX11_init 121 = .ok (.putfield 57, 3) := by decide +kernel
theorem dX11_init_124 : decode cX11_init 124 = .ok (.aload_n 0, 1) := by decide +kernel
theorem dX11_init_125 : decode cX11_init 125 = .ok (.new 16, 3) := by decide +kernel
theorem dX11_init_128 : decode cX11_init 128 = .ok (.dup, 1) := by decide +kernel
theorem dX11_init_129 : decode cX11_init 129 = .ok (.invokespecial 61, 3) := by decide +kernel
theorem dX11_init_132 : decode cX11_init 132 = .ok (.putfield 62, 3) := by decide +kernel
theorem dX11_init_135 : decode cX11_init 135 = .ok (.aload_n 0, 1) := by decide +kernel
theorem dX11_init_136 : decode cX11_init 136 = .ok (.iconst 0, 1) := by decide +kernel
theorem dX11_init_137 : decode cX11_init 137 = .ok (.putfield 66, 3) := by decide +kernel
theorem dX11_init_140 : decode cX11_init 140 = .ok (.aload_n 0, 1) := by decide +kernel
theorem dX11_init_141 : decode cX11_init 141 = .ok (.iconst (-1), 1) := by decide +kernel
theorem dX11_init_142 : decode cX11_init 142 = .ok (.putfield 70, 3) := by decide +kernel
theorem dX11_init_145 : decode cX11_init 145 = .ok (.return_, 1) := by decide +kernel
set_option maxRecDepth 20000 in
theorem ggX11_feed_X9_hasSpace : GoodIn wsX11_feed wsX9_hasSpace := goodIn_r _ [7, 8, 9, 25, 26, 27, 28, 29, 30, 31, 32] (by decide +kernel) (by decide +kernel)
set_option maxRecDepth 20000 in
theorem gX11_feed_X9_hasSpace : GoodIn wsX11_feed (wsV RX11 73 RX9 yX9_hasSpace wsX9_hasSpace) := goodIn_app (goodIn_of _ (by decide +kernel)) ggX11_feed_X9_hasSpace
set_option maxRecDepth 20000 in
theorem ggX11_feed_X9_put : GoodIn wsX11_feed wsX9_put := goodIn_r _ [13, 8, 9, 25, 26, 27, 28, 29, 30, 31, 32] (by decide +kernel) (by decide +kernel)
set_option maxRecDepth 20000 in
theorem gX11_feed_X9_put : GoodIn wsX11_feed (wsV RX11 77 RX9 yX9_put wsX9_put) := goodIn_app (goodIn_of _ (by decide +kernel)) ggX11_feed_X9_put
theorem dX11_feed_0 : decode cX11_feed 0 = .ok (.aload_n 0, 1) := by decide +kernel
theorem dX11_feed_1 : decode cX11_feed 1 = .ok (.getfield 10, 3) := by decide +kernel
theorem dX11_feed_4 : decode cX11_feed 4 = .ok (.bipush 20, 2) := by decide +kernel
theorem dX11_feed_6 : decode cX11_feed 6 = .ok (.invokevirtual 73, 3) := by decide +kernel
theorem dX11_feed_9 : decode cX11_feed 9 = .ok (.ifCond .ne 5, 3) := by decide +kernel
theorem dX11_feed_12 : decode cX11_feed 12 = .ok (.iconst (-1), 1) := by decide +kernel
theorem dX11_feed_13 : decode cX11_feed 13 = .ok (.ireturn, 1) := by decide +kernel
theorem dX11_feed_14 : decode cX11_feed 14 = .ok (.aload_n 0, 1) := by decide +kernel
theorem dX11_feed_15 : decode cX11_feed 15 = .ok (.getfield 10, 3) := by decide +kernel
theorem dX11_feed_18 : decode cX11_feed 18 = .ok (.iload_n 1, 1) := by decide +kernel
theorem dX11_feed_19 : decode cX11_feed 19 = .ok (.invokevirtual 77, 3) := by decide +kernel
theorem dX11_feed_22 : decode cX11_feed 22 = .ok (.aload_n 0, 1) := by decide +kernel
theorem dX11_feed_23 : decode cX11_feed 23 = .ok (.getfield 10, 3) := by decide +kernel
theorem dX11_feed_26 : decode cX11_feed 26 = .ok (.iload_n 2, 1) := by decide +kernel
theorem dX11_feed_27 : decode cX11_feed 27 = .ok (.invokevirtual 77, 3) := by decide +kernel
theorem dX11_feed_30 : decode cX11_feed 30 = .ok (.aload_n 0, 1) := by decide +kernel
theorem dX11_feed_31 : decode cX11_feed 31 = .ok (.getfield 10, 3) := by decide +kernel
theorem dX11_feed_34 : decode cX11_feed 34 = .ok (.iload_n 3, 1) := by decide +kernel
theorem dX11_feed_35 : decode cX11_feed 35 = .ok (.invokevirtual 77, 3) := by decide +kernel
theorem dX11_feed_38 : decode cX11_feed 38 = .ok (.aload_n 0, 1) := by decide +kernel
theorem dX11_feed_39 : decode cX11_feed 39 = .ok (.getfield 10, 3) := by decide +kernel
theorem dX11_feed_42 : decode cX11_feed 42 = .ok (.iload 4, 2) := by decide +kernel
theorem dX11_feed_44 : decode cX11_feed 44 = .ok (.invokevirtual 77, 3) := by decide +kernel
theorem dX11_feed_47 : decode cX11_feed 47 = .ok (.aload_n 0, 1) := by decide +kernel
theorem dX11_feed_48 : decode cX11_feed 48 = .ok (.getfield 10, 3) := by decide +kernel
theorem dX11_feed_51 : decode cX11_feed 51 = .ok (.iload 5, 2) := by decide +kernel
theorem dX11_feed_53 : decode cX11_feed 53 = .ok (.invokevirtual 77, 3) := by decide +kernel
theorem dX11_feed_56 : decode cX11_feed 56 = .ok (.aload_n 0, 1) := by decide +kernel
theorem dX11_feed_57 : decode cX11_feed 57 = .ok (.getfield 10, 3) := by decide +kernel
theorem dX11_feed_60 : decode cX11_feed 60 = .ok (.getfield 81, 3) := by decide +kernel
theorem dX11_feed_63 : decode cX11_feed 63 = .ok (.ireturn, 1) := by decide +kernel
theorem dX11_end_0 : decode cX11_end 0 = .ok (.iload_n 1, 1) := by decide +kernel
theorem dX11_end_1 : decode cX11_end 1 = .ok (.ifCond .lt 14, 3) := by decide +kernel
theorem dX11_end_4 : decode cX11_end 4 = .ok (.iload_n 1, 1) := by decide +kernel
theorem dX11_end_5 : decode cX11_end 5 = .ok (.aload_n 0, 1) := by decide +kernel
theorem dX11_end_6 : decode cX11_end 6 = .ok (.getfield 10, 3) := by decide +kernel
theorem dX11_end_9 : decode cX11_end 9 = .ok (.getfield 81, 3) := by decide +kernel
theorem dX11_end_12 : decode cX11_end 12 = .ok (.if_icmp .le 5, 3) := by decide +kernel
theorem dX11_end_15 : decode cX11_end 15 = .ok (.iconst (-1), 1) := by decide +kernel
theorem dX11_end_16 : decode cX11_end 16 = .ok (.ireturn, 1) := by decide +kernel
theorem dX11_end_17 : decode cX11_end 17 = .ok (.aload_n 0, 1) := by decide +kernel
theorem dX11_end_18 : decode cX11_end 18 = .ok (.getfield 10, 3) := by decide +kernel
theorem dX11_end_21 : decode cX11_end 21 = .ok (.iload_n 1, 1) := by decide +kernel
theorem dX11_end_22 : decode cX11_end 22 = .ok (.putfield 81, 3) := by decide +kernel
theorem dX11_end_25 : decode cX11_end 25 = .ok (.iload_n 1, 1) := by decide +kernel
theorem dX11_end_26 : decode cX11_end 26 = .ok (.ireturn, 1) := by decide +kernel
theorem dX11_works_0 : decode cX11_works 0 = .ok (.new 84, 3) := by decide +kernel
theorem dX11_works_3 : decode cX11_works 3 = .ok (.dup, 1) := by decide +kernel
theorem dX11_works_4 : decode cX11_works 4 = .ok (.aload_n 0, 1) := by decide +kernel
theorem dX11_works_5 : decode cX11_works 5 = .ok (.getfield 10, 3) := by decide +kernel
theorem dX11_works_8 : decode cX11_works 8 = .ok (.invokespecial 86, 3) := by decide +kernel
theorem dX11_works_11 : decode cX11_works 11 = .ok (.invokevirtual 89, 3) := by decide +kernel
theorem dX11_works_14 : decode cX11_works 14 = .ok (.astore_n 1, 1) := by decide +kernel
theorem dX11_works_15 : decode cX11_works 15 = .ok (.aload_n 0, 1) := by decide +kernel
theorem dX11_works_16 : decode cX11_works 16 = .ok (.aload_n 0, 1) := by decide +kernel
theorem dX11_works_17 : decode cX11_works 17 = .ok (.getfield 10, 3) := by decide +kernel
theorem dX11_works_20 : decode cX11_works 20 = .ok (.getfield 93, 3) := by decide +kernel
theorem dX11_works_23 : decode cX11_works 23 = .ok (.putfield 66, 3) := by decide +kernel
theorem dX11_works_26 : decode cX11_works 26 = .ok (.aload_n 0, 1) := by decide +kernel
theorem dX11_works_27 : decode cX11_works 27 = .ok (.aload_n 0, 1) := by decide +kernel
theorem dX11_works_28 : decode cX11_works 28 = .ok (.getfield 10, 3) := by decide +kernel
theorem dX11_works_31 : decode cX11_works 31 = .ok (.getfield 96, 3) := by decide +kernel
theorem dX11_works_34 : decode cX11_works 34 = .ok (.putfield 70, 3) := by decide +kernel
theorem dX11_works_37 : decode cX11_works 37 = .ok (.aload_n 0, 1) := by decide +kernel
theorem dX11_works_38 : decode cX11_works 38 = .ok (.getfield 66, 3) := by decide +kernel
theorem dX11_works_41 : decode cX11_works 41 = .ok (.ifCond .eq 6, 3) := by decide +kernel
theorem dX11_works_44 : decode cX11_works 44 = .ok (.bipush (-4), 2) := by decide +kernel
theorem dX11_works_46 : decode cX11_works 46 = .ok (.ireturn, 1) := by decide +kernel
theorem dX11_works_47 : decode cX11_works 47 = .ok (.aload_n 0, 1) := by decide +kernel
theorem dX11_works_48 : decode cX11_works 48 = .ok (.getfield 10, 3) := by decide +kernel
theorem dX11_works_51 : decode cX11_works 51 = .ok (.iconst 0, 1) := by decide +kernel
theorem dX11_works_52 : decode cX11_works 52 = .ok (.putfield 81, 3) := by decide +kernel
theorem dX11_works_55 : decode cX11_works 55 = .ok (.aload_n 0, 1) := by decide +kernel
theorem dX11_works_56 : decode cX11_works 56 = .ok (.aload_n 1, 1) := by decide +kernel
theorem dX11_works_57 : decode cX11_works 57 = .ok (.putfield 62, 3) := by decide +kernel
theorem dX11_works_60 : decode cX11_works 60 = .ok (.aload_n 0, 1) := by decide +kernel
theorem dX11_works_61 : decode cX11_works 61 = .ok (.getfield 62, 3) := by decide +kernel
theorem dX11_works_64 : decode cX11_works 64 = .ok (.getfield 99, 3) := by decide +kernel
theorem dX11_works_67 : decode cX11_works 67 = .ok (.ireturn, 1) := by decide +kernel
theorem dX11_fault_0 : decode cX11_fault 0 = .ok (.iload_n 1, 1) := by decide +kernel
theorem dX11_fault_1 : decode cX11_fault 1 = .ok (.lookupswitch 37 #[(0, 27), (1, 32)], 27) := by decide +kernel
theorem dX11_fault_28 : decode cX11_fault 28 = .ok (.aload_n 0, 1) := by decide +kernel
theorem dX11_fault_29 : decode cX11_fault 29 = .ok (.getfield 66, 3) := by decide +kernel
theorem dX11_fault_32 : decode cX11_fault 32 = .ok (.ireturn, 1) := by decide +kernel
theorem dX11_fault_33 : decode cX11_fault 33 = .ok (.aload_n 0, 1) := by decide +kernel
theorem dX11_fault_34 : decode cX11_fault 34 = .ok (.getfield 70, 3) := by decide +kernel
theorem dX11_fault_37 : decode cX11_fault 37 = .ok (.ireturn, 1) := by decide +kernel
theorem dX11_fault_38 : decode cX11_fault 38 = .ok (.iconst (-1), 1) := by decide +kernel
theorem dX11_fault_39 : decode cX11_fault 39 = .ok (.ireturn, 1) := by decide +kernel
set_option maxRecDepth 20000 in
theorem ggX11_height_X10_hasPot : GoodIn wsX11_height wsX10_hasPot := goodIn_r _ [7, 8, 25, 26, 27, 28, 29, 30, 31, 32, 33, 34, 35, 36] (by decide +kernel) (by decide +kernel)
