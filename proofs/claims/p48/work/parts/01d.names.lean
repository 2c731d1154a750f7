theorem dX4_addPerson_21 : decode cX4_addPerson 21 = .ok (.aload_n 0, 1) := by decide +kernel
theorem dX4_addPerson_22 : decode cX4_addPerson 22 = .ok (.getfield 9, 3) := by decide +kernel
theorem dX4_addPerson_25 : decode cX4_addPerson 25 = .ok (.iload_n 1, 1) := by decide +kernel
theorem dX4_addPerson_26 : decode cX4_addPerson 26 = .ok (.iastore, 1) := by decide +kernel
theorem dX4_addPerson_27 : decode cX4_addPerson 27 = .ok (.aload_n 0, 1) := by decide +kernel
theorem dX4_addPerson_28 : decode cX4_addPerson 28 = .ok (.getfield 25, 3) := by decide +kernel
theorem dX4_addPerson_31 : decode cX4_addPerson 31 = .ok (.aload_n 0, 1) := by decide +kernel
theorem dX4_addPerson_32 : decode cX4_addPerson 32 = .ok (.getfield 9, 3) := by decide +kernel
theorem dX4_addPerson_35 : decode cX4_addPerson 35 = .ok (.iload_n 2, 1) := by decide +kernel
theorem dX4_addPerson_36 : decode cX4_addPerson 36 = .ok (.iastore, 1) := by decide +kernel
theorem dX4_addPerson_37 : decode cX4_addPerson 37 = .ok (.aload_n 0, 1) := by decide +kernel
theorem dX4_addPerson_38 : decode cX4_addPerson 38 = .ok (.getfield 28, 3) := by decide +kernel
theorem dX4_addPerson_41 : decode cX4_addPerson 41 = .ok (.aload_n 0, 1) := by decide +kernel
theorem dX4_addPerson_42 : decode cX4_addPerson 42 = .ok (.getfield 9, 3) := by decide +kernel
theorem dX4_addPerson_45 : decode cX4_addPerson 45 = .ok (.iload_n 3, 1) := by decide +kernel
theorem dX4_addPerson_46 : decode cX4_addPerson 46 = .ok (.iastore, 1) := by decide +kernel
theorem dX4_addPerson_47 : decode cX4_addPerson 47 = .ok (.aload_n 0, 1) := by decide +kernel
theorem dX4_addPerson_48 : decode cX4_addPerson 48 = .ok (.dup, 1) := by decide +kernel
theorem dX4_addPerson_49 : decode cX4_addPerson 49 = .ok (.getfield 9, 3) := by decide +kernel
theorem dX4_addPerson_52 : decode cX4_addPerson 52 = .ok (.iconst 1, 1) := by decide +kernel
theorem dX4_addPerson_53 : decode cX4_addPerson 53 = .ok (.iadd, 1) := by decide +kernel
theorem dX4_addPerson_54 : decode cX4_addPerson 54 = .ok (.putfield 9, 3) := by decide +kernel
theorem dX4_addPerson_57 : decode cX4_addPerson 57 = .ok (.return_, 1) := by decide +kernel
theorem dX4_addRule_0 : decode cX4_addRule 0 = .ok (.aload_n 0, 1) := by decide +kernel
theorem dX4_addRule_1 : decode cX4_addRule 1 = .ok (.dup, 1) := by decide +kernel
theorem dX4_addRule_2 : decode cX4_addRule 2 = .ok (.getfield 18, 3) := by decide +kernel
theorem dX4_addRule_5 : decode cX4_addRule 5 = .ok (.iload_n 2, 1) := by decide +kernel
theorem dX4_addRule_6 : decode cX4_addRule 6 = .ok (.iconst 4, 1) := by decide +kernel
theorem dX4_addRule_7 : decode cX4_addRule 7 = .ok (.iload_n 1, 1) := by decide +kernel
theorem dX4_addRule_8 : decode cX4_addRule 8 = .ok (.imul, 1) := by decide +kernel
theorem dX4_addRule_9 : decode cX4_addRule 9 = .ok (.ishl, 1) := by decide +kernel
theorem dX4_addRule_10 : decode cX4_addRule 10 = .ok (.ior, 1) := by decide +kernel
theorem dX4_addRule_11 : decode cX4_addRule 11 = .ok (.putfield 18, 3) := by decide +kernel
theorem dX4_addRule_14 : decode cX4_addRule 14 = .ok (.return_, 1) := by decide +kernel
theorem dX4_addChange_0 : decode cX4_addChange 0 = .ok (.aload_n 0, 1) := by decide +kernel
theorem dX4_addChange_1 : decode cX4_addChange 1 = .ok (.getfield 15, 3) := by decide +kernel
theorem dX4_addChange_4 : decode cX4_addChange 4 = .ok (.ifCond .lt 12, 3) := by decide +kernel
theorem dX4_addChange_7 : decode cX4_addChange 7 = .ok (.aload_n 0, 1) := by decide +kernel
theorem dX4_addChange_8 : decode cX4_addChange 8 = .ok (.getfield 15, 3) := by decide +kernel
theorem dX4_addChange_11 : decode cX4_addChange 11 = .ok (.bipush 20, 2) := by decide +kernel
theorem dX4_addChange_13 : decode cX4_addChange 13 = .ok (.if_icmp .lt 4, 3) := by decide +kernel
theorem dX4_addChange_16 : decode cX4_addChange 16 = .ok (.return_, 1) := by decide +kernel
theorem dX4_addChange_17 : decode cX4_addChange 17 = .ok (.aload_n 0, 1) := by decide +kernel
theorem dX4_addChange_18 : decode cX4_addChange 18 = .ok (.getfield 31, 3) := by decide +kernel
theorem dX4_addChange_21 : decode cX4_addChange 21 = .ok (.aload_n 0, 1) := by decide +kernel
theorem dX4_addChange_22 : decode cX4_addChange 22 = .ok (.getfield 15, 3) := by decide +kernel
theorem dX4_addChange_25 : decode cX4_addChange 25 = .ok (.iload_n 1, 1) := by decide +kernel
theorem dX4_addChange_26 : decode cX4_addChange 26 = .ok (.iastore, 1) := by decide +kernel
theorem dX4_addChange_27 : decode cX4_addChange 27 = .ok (.aload_n 0, 1) := by decide +kernel
theorem dX4_addChange_28 : decode cX4_addChange 28 = .ok (.getfield 34, 3) := by decide +kernel
theorem dX4_addChange_31 : decode cX4_addChange 31 = .ok (.aload_n 0, 1) := by decide +kernel
theorem dX4_addChange_32 : decode cX4_addChange 32 = .ok (.getfield 15, 3) := by decide +kernel
theorem dX4_addChange_35 : decode cX4_addChange 35 = .ok (.iload_n 2, 1) := by decide +kernel
theorem dX4_addChange_36 : decode cX4_addChange 36 = .ok (.iastore, 1) := by decide +kernel
theorem dX4_addChange_37 : decode cX4_addChange 37 = .ok (.aload_n 0, 1) := by decide +kernel
theorem dX4_addChange_38 : decode cX4_addChange 38 = .ok (.getfield 37, 3) := by decide +kernel
theorem dX4_addChange_41 : decode cX4_addChange 41 = .ok (.aload_n 0, 1) := by decide +kernel
theorem dX4_addChange_42 : decode cX4_addChange 42 = .ok (.getfield 15, 3) := by decide +kernel
theorem dX4_addChange_45 : decode cX4_addChange 45 = .ok (.iload_n 3, 1) := by decide +kernel
theorem dX4_addChange_46 : decode cX4_addChange 46 = .ok (.iastore, 1) := by decide +kernel
theorem dX4_addChange_47 : decode cX4_addChange 47 = .ok (.aload_n 0, 1) := by decide +kernel
theorem dX4_addChange_48 : decode cX4_addChange 48 = .ok (.dup, 1) := by decide +kernel
theorem dX4_addChange_49 : decode cX4_addChange 49 = .ok (.getfield 15, 3) := by decide +kernel
theorem dX4_addChange_52 : decode cX4_addChange 52 = .ok (.iconst 1, 1) := by decide +kernel
theorem dX4_addChange_53 : decode cX4_addChange 53 = .ok (.iadd, 1) := by decide +kernel
theorem dX4_addChange_54 : decode cX4_addChange 54 = .ok (.putfield 15, 3) := by decide +kernel
theorem dX4_addChange_57 : decode cX4_addChange 57 = .ok (.return_, 1) := by decide +kernel
theorem dX4_hasPerson_0 : decode cX4_hasPerson 0 = .ok (.iload_n 1, 1) := by decide +kernel
theorem dX4_hasPerson_1 : decode cX4_hasPerson 1 = .ok (.ifCond .lt 15, 3) := by decide +kernel
theorem dX4_hasPerson_4 : decode cX4_hasPerson 4 = .ok (.iload_n 1, 1) := by decide +kernel
theorem dX4_hasPerson_5 : decode cX4_hasPerson 5 = .ok (.aload_n 0, 1) := by decide +kernel
theorem dX4_hasPerson_6 : decode cX4_hasPerson 6 = .ok (.getfield 9, 3) := by decide +kernel
theorem dX4_hasPerson_9 : decode cX4_hasPerson 9 = .ok (.if_icmp .ge 7, 3) := by decide +kernel
theorem dX4_hasPerson_12 : decode cX4_hasPerson 12 = .ok (.iconst 1, 1) := by decide +kernel
theorem dX4_hasPerson_13 : decode cX4_hasPerson 13 = .ok (.goto 4, 3) := by decide +kernel
theorem dX4_hasPerson_16 : decode cX4_hasPerson 16 = .ok (.iconst 0, 1) := by decide +kernel
theorem dX4_hasPerson_17 : decode cX4_hasPerson 17 = .ok (.ireturn, 1) := by decide +kernel
theorem dX4_hasChange_0 : decode cX4_hasChange 0 = .ok (.iload_n 1, 1) := by decide +kernel
theorem dX4_hasChange_1 : decode cX4_hasChange 1 = .ok (.ifCond .lt 15, 3) := by decide +kernel
theorem dX4_hasChange_4 : decode cX4_hasChange 4 = .ok (.iload_n 1, 1) := by decide +kernel
theorem dX4_hasChange_5 : decode cX4_hasChange 5 = .ok (.aload_n 0, 1) := by decide +kernel
theorem dX4_hasChange_6 : decode cX4_hasChange 6 = .ok (.getfield 15, 3) := by decide +kernel
theorem dX4_hasChange_9 : decode cX4_hasChange 9 = .ok (.if_icmp .ge 7, 3) := by decide +kernel
theorem dX4_hasChange_12 : decode cX4_hasChange 12 = .ok (.iconst 1, 1) := by decide +kernel
theorem dX4_hasChange_13 : decode cX4_hasChange 13 = .ok (.goto 4, 3) := by decide +kernel
theorem dX4_hasChange_16 : decode cX4_hasChange 16 = .ok (.iconst 0, 1) := by decide +kernel
theorem dX4_hasChange_17 : decode cX4_hasChange 17 = .ok (.ireturn, 1) := by decide +kernel
theorem dX4_isThere_0 : decode cX4_isThere 0 = .ok (.iload_n 1, 1) := by decide +kernel
theorem dX4_isThere_1 : decode cX4_isThere 1 = .ok (.ifCond .lt 33, 3) := by decide +kernel
theorem dX4_isThere_4 : decode cX4_isThere 4 = .ok (.iload_n 1, 1) := by decide +kernel
theorem dX4_isThere_5 : decode cX4_isThere 5 = .ok (.bipush 12, 2) := by decide +kernel
theorem dX4_isThere_7 : decode cX4_isThere 7 = .ok (.if_icmp .ge 27, 3) := by decide +kernel
theorem dX4_isThere_10 : decode cX4_isThere 10 = .ok (.iload_n 2, 1) := by decide +kernel
theorem dX4_isThere_11 : decode cX4_isThere 11 = .ok (.aload_n 0, 1) := by decide +kernel
theorem dX4_isThere_12 : decode cX4_isThere 12 = .ok (.getfield 25, 3) := by decide +kernel
theorem dX4_isThere_15 : decode cX4_isThere 15 = .ok (.iload_n 1, 1) := by decide +kernel
theorem dX4_isThere_16 : decode cX4_isThere 16 = .ok (.iaload, 1) := by decide +kernel
theorem dX4_isThere_17 : decode cX4_isThere 17 = .ok (.if_icmp .lt 13, 3) := by decide +kernel
theorem dX4_isThere_20 : decode cX4_isThere 20 = .ok (.iload_n 2, 1) := by decide +kernel
theorem dX4_isThere_21 : decode cX4_isThere 21 = .ok (.aload_n 0, 1) := by decide +kernel
theorem dX4_isThere_22 : decode cX4_isThere 22 = .ok (.getfield 28, 3) := by decide +kernel
theorem dX4_isThere_25 : decode cX4_isThere 25 = .ok (.iload_n 1, 1) := by decide +kernel
theorem dX4_isThere_26 : decode cX4_isThere 26 = .ok (.iaload, 1) := by decide +kernel
theorem dX4_isThere_27 : decode cX4_isThere 27 = .ok (.if_icmp .le 7, 3) := by decide +kernel
theorem dX4_isThere_30 : decode cX4_isThere 30 = .ok (.iconst 1, 1) := by decide +kernel
theorem dX4_isThere_31 : decode cX4_isThere 31 = .ok (.goto 4, 3) := by decide +kernel
theorem dX4_isThere_34 : decode cX4_isThere 34 = .ok (.iconst 0, 1) := by decide +kernel
theorem dX4_isThere_35 : decode cX4_isThere 35 = .ok (.ireturn, 1) := by decide +kernel
set_option maxRecDepth 20000 in
theorem ggX4_knownOn_X4_isThere : GoodIn wsX4_knownOn wsX4_isThere := goodIn_r _ [7, 8, 9, 10, 11, 12, 13, 14, 15, 16, 17, 18, 19, 20] (by decide +kernel) (by decide +kernel)
set_option maxRecDepth 20000 in
theorem gX4_knownOn_X4_isThere : GoodIn wsX4_knownOn (wsV RX4 47 RX4 yX4_isThere wsX4_isThere) := goodIn_app (goodIn_of _ (by decide +kernel)) ggX4_knownOn_X4_isThere
theorem dX4_knownOn_0 : decode cX4_knownOn 0 = .ok (.iconst 0, 1) := by decide +kernel
theorem dX4_knownOn_1 : decode cX4_knownOn 1 = .ok (.istore_n 3, 1) := by decide +kernel
theorem dX4_knownOn_2 : decode cX4_knownOn 2 = .ok (.iconst 0, 1) := by decide +kernel
theorem dX4_knownOn_3 : decode cX4_knownOn 3 = .ok (.istore 4, 2) := by decide +kernel
theorem dX4_knownOn_5 : decode cX4_knownOn 5 = .ok (.iload 4, 2) := by decide +kernel
theorem dX4_knownOn_7 : decode cX4_knownOn 7 = .ok (.aload_n 0, 1) := by decide +kernel
theorem dX4_knownOn_8 : decode cX4_knownOn 8 = .ok (.getfield 9, 3) := by decide +kernel
theorem dX4_knownOn_11 : decode cX4_knownOn 11 = .ok (.if_icmp .ge 42, 3) := by decide +kernel
theorem dX4_knownOn_14 : decode cX4_knownOn 14 = .ok (.iload 4, 2) := by decide +kernel
theorem dX4_knownOn_16 : decode cX4_knownOn 16 = .ok (.bipush 12, 2) := by decide +kernel
theorem dX4_knownOn_18 : decode cX4_knownOn 18 = .ok (.if_icmp .ge 35, 3) := by decide +kernel
theorem dX4_knownOn_21 : decode cX4_knownOn 21 = .ok (.iload 4, 2) := by decide +kernel
theorem dX4_knownOn_23 : decode cX4_knownOn 23 = .ok (.iload_n 2, 1) := by decide +kernel
theorem dX4_knownOn_24 : decode cX4_knownOn 24 = .ok (.if_icmp .eq 13, 3) := by decide +kernel
theorem dX4_knownOn_27 : decode cX4_knownOn 27 = .ok (.aload_n 0, 1) := by decide +kernel
theorem dX4_knownOn_28 : decode cX4_knownOn 28 = .ok (.iload 4, 2) := by decide +kernel
theorem dX4_knownOn_30 : decode cX4_knownOn 30 = .ok (.iload_n 1, 1) := by decide +kernel
theorem dX4_knownOn_31 : decode cX4_knownOn 31 = .ok (.invokevirtual 47, 3) := by decide +kernel
theorem dX4_knownOn_34 : decode cX4_knownOn 34 = .ok (.ifCond .eq 13, 3) := by decide +kernel
theorem dX4_knownOn_37 : decode cX4_knownOn 37 = .ok (.iload_n 3, 1) := by decide +kernel
theorem dX4_knownOn_38 : decode cX4_knownOn 38 = .ok (.aload_n 0, 1) := by decide +kernel
theorem dX4_knownOn_39 : decode cX4_knownOn 39 = .ok (.getfield 21, 3) := by decide +kernel
theorem dX4_knownOn_42 : decode cX4_knownOn 42 = .ok (.iload 4, 2) := by decide +kernel
theorem dX4_knownOn_44 : decode cX4_knownOn 44 = .ok (.iaload, 1) := by decide +kernel
theorem dX4_knownOn_45 : decode cX4_knownOn 45 = .ok (.ior, 1) := by decide +kernel
theorem dX4_knownOn_46 : decode cX4_knownOn 46 = .ok (.istore_n 3, 1) := by decide +kernel
theorem dX4_knownOn_47 : decode cX4_knownOn 47 = .ok (.iinc 4 1, 3) := by decide +kernel
theorem dX4_knownOn_50 : decode cX4_knownOn 50 = .ok (.goto (-45), 3) := by decide +kernel
theorem dX4_knownOn_53 : decode cX4_knownOn 53 = .ok (.iload_n 3, 1) := by decide +kernel
theorem dX4_knownOn_54 : decode cX4_knownOn 54 = .ok (.ireturn, 1) := by decide +kernel
set_option maxRecDepth 20000 in
theorem ggX4_firstKnowing_X4_isThere : GoodIn wsX4_firstKnowing wsX4_isThere := goodIn_r _ [7, 8, 9, 10, 11, 12, 13, 14, 15, 16, 17, 18, 19, 20] (by decide +kernel) (by decide +kernel)
set_option maxRecDepth 20000 in
theorem gX4_firstKnowing_X4_isThere : GoodIn wsX4_firstKnowing (wsV RX4 47 RX4 yX4_isThere wsX4_isThere) := goodIn_app (goodIn_of _ (by decide +kernel)) ggX4_firstKnowing_X4_isThere
theorem dX4_firstKnowing_0 : decode cX4_firstKnowing 0 = .ok (.iconst 0, 1) := by decide +kernel
theorem dX4_firstKnowing_1 : decode cX4_firstKnowing 1 = .ok (.istore_n 3, 1) := by decide +kernel
theorem dX4_firstKnowing_2 : decode cX4_firstKnowing 2 = .ok (.iload_n 3, 1) := by decide +kernel
theorem dX4_firstKnowing_3 : decode cX4_firstKnowing 3 = .ok (.aload_n 0, 1) := by decide +kernel
theorem dX4_firstKnowing_4 : decode cX4_firstKnowing 4 = .ok (.getfield 9, 3) := by decide +kernel
theorem dX4_firstKnowing_7 : decode cX4_firstKnowing 7 = .ok (.if_icmp .ge 39, 3) := by decide +kernel
theorem dX4_firstKnowing_10 : decode cX4_firstKnowing 10 = .ok (.iload_n 3, 1) := by decide +kernel
theorem dX4_firstKnowing_11 : decode cX4_firstKnowing 11 = .ok (.bipush 12, 2) := by decide +kernel
theorem dX4_firstKnowing_13 : decode cX4_firstKnowing 13 = .ok (.if_icmp .ge 33, 3) := by decide +kernel
theorem dX4_firstKnowing_16 : decode cX4_firstKnowing 16 = .ok (.aload_n 0, 1) := by decide +kernel
theorem dX4_firstKnowing_17 : decode cX4_firstKnowing 17 = .ok (.getfield 21, 3) := by decide +kernel
theorem dX4_firstKnowing_20 : decode cX4_firstKnowing 20 = .ok (.iload_n 3, 1) := by decide +kernel
theorem dX4_firstKnowing_21 : decode cX4_firstKnowing 21 = .ok (.iaload, 1) := by decide +kernel
theorem dX4_firstKnowing_22 : decode cX4_firstKnowing 22 = .ok (.iload_n 1, 1) := by decide +kernel
theorem dX4_firstKnowing_23 : decode cX4_firstKnowing 23 = .ok (.ishr, 1) := by decide +kernel
theorem dX4_firstKnowing_24 : decode cX4_firstKnowing 24 = .ok (.iconst 1, 1) := by decide +kernel
theorem dX4_firstKnowing_25 : decode cX4_firstKnowing 25 = .ok (.iand, 1) := by decide +kernel
theorem dX4_firstKnowing_26 : decode cX4_firstKnowing 26 = .ok (.ifCond .eq 14, 3) := by decide +kernel
theorem dX4_firstKnowing_29 : decode cX4_firstKnowing 29 = .ok (.aload_n 0, 1) := by decide +kernel
theorem dX4_firstKnowing_30 : decode cX4_firstKnowing 30 = .ok (.iload_n 3, 1) := by decide +kernel
theorem dX4_firstKnowing_31 : decode cX4_firstKnowing 31 = .ok (.iload_n 2, 1) := by decide +kernel
theorem dX4_firstKnowing_32 : decode cX4_firstKnowing 32 = .ok (.invokevirtual 47, 3) := by decide +kernel
theorem dX4_firstKnowing_35 : decode cX4_firstKnowing 35 = .ok (.ifCond .eq 5, 3) := by decide +kernel
theorem dX4_firstKnowing_38 : decode cX4_firstKnowing 38 = .ok (.iload_n 3, 1) := by decide +kernel
theorem dX4_firstKnowing_39 : decode cX4_firstKnowing 39 = .ok (.ireturn, 1) := by decide +kernel
theorem dX4_firstKnowing_40 : decode cX4_firstKnowing 40 = .ok (.iinc 3 1, 3) := by decide +kernel
theorem dX4_firstKnowing_43 : decode cX4_firstKnowing 43 = .ok (.goto (-41), 3) := by decide +kernel
theorem dX4_firstKnowing_46 : decode cX4_firstKnowing 46 = .ok (.iconst (-1), 1) := by decide +kernel
theorem dX4_firstKnowing_47 : decode cX4_firstKnowing 47 = .ok (.ireturn, 1) := by decide +kernel
set_option maxRecDepth 20000 in
theorem ggX4_wholeChanges_X4_knownOn : GoodIn wsX4_wholeChanges wsX4_knownOn := goodIn_r _ [10, 11, 12, 13, 14, 15, 9, 16, 17, 18, 19, 20, 21, 22, 23, 24, 25, 26, 27, 28, 29] (by decide +kernel) (by decide +kernel)
set_option maxRecDepth 20000 in
theorem gX4_wholeChanges_X4_knownOn : GoodIn wsX4_wholeChanges (wsV RX4 51 RX4 yX4_knownOn wsX4_knownOn) := goodIn_app (goodIn_of _ (by decide +kernel)) ggX4_wholeChanges_X4_knownOn
theorem dX4_wholeChanges_0 : decode cX4_wholeChanges 0 = .ok (.iconst 0, 1) := by decide +kernel
theorem dX4_wholeChanges_1 : decode cX4_wholeChanges 1 = .ok (.istore_n 2, 1) := by decide +kernel
theorem dX4_wholeChanges_2 : decode cX4_wholeChanges 2 = .ok (.iconst 0, 1) := by decide +kernel
theorem dX4_wholeChanges_3 : decode cX4_wholeChanges 3 = .ok (.istore_n 3, 1) := by decide +kernel
theorem dX4_wholeChanges_4 : decode cX4_wholeChanges 4 = .ok (.iload_n 3, 1) := by decide +kernel
theorem dX4_wholeChanges_5 : decode cX4_wholeChanges 5 = .ok (.aload_n 0, 1) := by decide +kernel
theorem dX4_wholeChanges_6 : decode cX4_wholeChanges 6 = .ok (.getfield 15, 3) := by decide +kernel
theorem dX4_wholeChanges_9 : decode cX4_wholeChanges 9 = .ok (.if_icmp .ge 62, 3) := by decide +kernel
theorem dX4_wholeChanges_12 : decode cX4_wholeChanges 12 = .ok (.iload_n 3, 1) := by decide +kernel
theorem dX4_wholeChanges_13 : decode cX4_wholeChanges 13 = .ok (.bipush 20, 2) := by decide +kernel
theorem dX4_wholeChanges_15 : decode cX4_wholeChanges 15 = .ok (.if_icmp .ge 56, 3) := by decide +kernel
theorem dX4_wholeChanges_18 : decode cX4_wholeChanges 18 = .ok (.aload_n 0, 1) := by decide +kernel
theorem dX4_wholeChanges_19 : decode cX4_wholeChanges 19 = .ok (.getfield 18, 3) := by decide +kernel
theorem dX4_wholeChanges_22 : decode cX4_wholeChanges 22 = .ok (.iconst 4, 1) := by decide +kernel
theorem dX4_wholeChanges_23 : decode cX4_wholeChanges 23 = .ok (.aload_n 0, 1) := by decide +kernel
theorem dX4_wholeChanges_24 : decode cX4_wholeChanges 24 = .ok (.getfield 31, 3) := by decide +kernel
theorem dX4_wholeChanges_27 : decode cX4_wholeChanges 27 = .ok (.iload_n 3, 1) := by decide +kernel
theorem dX4_wholeChanges_28 : decode cX4_wholeChanges 28 = .ok (.iaload, 1) := by decide +kernel
theorem dX4_wholeChanges_29 : decode cX4_wholeChanges 29 = .ok (.imul, 1) := by decide +kernel
theorem dX4_wholeChanges_30 : decode cX4_wholeChanges 30 = .ok (.ishr, 1) := by decide +kernel
theorem dX4_wholeChanges_31 : decode cX4_wholeChanges 31 = .ok (.aload_n 0, 1) := by decide +kernel
theorem dX4_wholeChanges_32 : decode cX4_wholeChanges 32 = .ok (.aload_n 0, 1) := by decide +kernel
theorem dX4_wholeChanges_33 : decode cX4_wholeChanges 33 = .ok (.getfield 34, 3) := by decide +kernel
theorem dX4_wholeChanges_36 : decode cX4_wholeChanges 36 = .ok (.iload_n 3, 1) := by decide +kernel
theorem dX4_wholeChanges_37 : decode cX4_wholeChanges 37 = .ok (.iaload, 1) := by decide +kernel
theorem dX4_wholeChanges_38 : decode cX4_wholeChanges 38 = .ok (.iload_n 1, 1) := by decide +kernel
theorem dX4_wholeChanges_39 : decode cX4_wholeChanges 39 = .ok (.invokevirtual 51, 3) := by decide +kernel
theorem dX4_wholeChanges_42 : decode cX4_wholeChanges 42 = .ok (.iand, 1) := by decide +kernel
theorem dX4_wholeChanges_43 : decode cX4_wholeChanges 43 = .ok (.istore 4, 2) := by decide +kernel
theorem dX4_wholeChanges_45 : decode cX4_wholeChanges 45 = .ok (.aload_n 0, 1) := by decide +kernel
theorem dX4_wholeChanges_46 : decode cX4_wholeChanges 46 = .ok (.getfield 37, 3) := by decide +kernel
theorem dX4_wholeChanges_49 : decode cX4_wholeChanges 49 = .ok (.iload_n 3, 1) := by decide +kernel
theorem dX4_wholeChanges_50 : decode cX4_wholeChanges 50 = .ok (.iaload, 1) := by decide +kernel
theorem dX4_wholeChanges_51 : decode cX4_wholeChanges 51 = .ok (.iload 4, 2) := by decide +kernel
theorem dX4_wholeChanges_53 : decode cX4_wholeChanges 53 = .ok (.iconst (-1), 1) := by decide +kernel
theorem dX4_wholeChanges_54 : decode cX4_wholeChanges 54 = .ok (.ixor, 1) := by decide +kernel
theorem dX4_wholeChanges_55 : decode cX4_wholeChanges 55 = .ok (.iand, 1) := by decide +kernel
theorem dX4_wholeChanges_56 : decode cX4_wholeChanges 56 = .ok (.ifCond .ne 9, 3) := by decide +kernel
theorem dX4_wholeChanges_59 : decode cX4_wholeChanges 59 = .ok (.iload_n 2, 1) := by decide +kernel
theorem dX4_wholeChanges_60 : decode cX4_wholeChanges 60 = .ok (.iconst 1, 1) := by decide +kernel
theorem dX4_wholeChanges_61 : decode cX4_wholeChanges 61 = .ok (.iload_n 3, 1) := by decide +kernel
theorem dX4_wholeChanges_62 : decode cX4_wholeChanges 62 = .ok (.ishl, 1) := by decide +kernel
theorem dX4_wholeChanges_63 : decode cX4_wholeChanges 63 = .ok (.ior, 1) := by decide +kernel
theorem dX4_wholeChanges_64 : decode cX4_wholeChanges 64 = .ok (.istore_n 2, 1) := by decide +kernel
theorem dX4_wholeChanges_65 : decode cX4_wholeChanges 65 = .ok (.iinc 3 1, 3) := by decide +kernel
theorem dX4_wholeChanges_68 : decode cX4_wholeChanges 68 = .ok (.goto (-64), 3) := by decide +kernel
theorem dX4_wholeChanges_71 : decode cX4_wholeChanges 71 = .ok (.iload_n 2, 1) := by decide +kernel
theorem dX4_wholeChanges_72 : decode cX4_wholeChanges 72 = .ok (.ireturn, 1) := by decide +kernel
set_option maxRecDepth 20000 in
theorem ggX4_ofChange_X4_knownOn : GoodIn wsX4_ofChange wsX4_knownOn := goodIn_r _ [9, 10, 11, 12, 13, 14, 8, 15, 16, 17, 18, 19, 20, 21, 22, 23, 24, 25, 26, 27, 28] (by decide +kernel) (by decide +kernel)
set_option maxRecDepth 20000 in
theorem gX4_ofChange_X4_knownOn : GoodIn wsX4_ofChange (wsV RX4 51 RX4 yX4_knownOn wsX4_knownOn) := goodIn_app (goodIn_of _ (by decide +kernel)) ggX4_ofChange_X4_knownOn
theorem dX4_ofChange_0 : decode cX4_ofChange 0 = .ok (.iload_n 1, 1) := by decide +kernel
theorem dX4_ofChange_1 : decode cX4_ofChange 1 = .ok (.ifCond .lt 9, 3) := by decide +kernel
theorem dX4_ofChange_4 : decode cX4_ofChange 4 = .ok (.iload_n 1, 1) := by decide +kernel
theorem dX4_ofChange_5 : decode cX4_ofChange 5 = .ok (.bipush 20, 2) := by decide +kernel
theorem dX4_ofChange_7 : decode cX4_ofChange 7 = .ok (.if_icmp .lt 6, 3) := by decide +kernel
theorem dX4_ofChange_10 : decode cX4_ofChange 10 = .ok (.bipush (-2), 2) := by decide +kernel
theorem dX4_ofChange_12 : decode cX4_ofChange 12 = .ok (.ireturn, 1) := by decide +kernel
theorem dX4_ofChange_13 : decode cX4_ofChange 13 = .ok (.aload_n 0, 1) := by decide +kernel
theorem dX4_ofChange_14 : decode cX4_ofChange 14 = .ok (.getfield 18, 3) := by decide +kernel
theorem dX4_ofChange_17 : decode cX4_ofChange 17 = .ok (.iconst 4, 1) := by decide +kernel
theorem dX4_ofChange_18 : decode cX4_ofChange 18 = .ok (.aload_n 0, 1) := by decide +kernel
theorem dX4_ofChange_19 : decode cX4_ofChange 19 = .ok (.getfield 31, 3) := by decide +kernel
theorem dX4_ofChange_22 : decode cX4_ofChange 22 = .ok (.iload_n 1, 1) := by decide +kernel
theorem dX4_ofChange_23 : decode cX4_ofChange 23 = .ok (.iaload, 1) := by decide +kernel
theorem dX4_ofChange_24 : decode cX4_ofChange 24 = .ok (.imul, 1) := by decide +kernel
theorem dX4_ofChange_25 : decode cX4_ofChange 25 = .ok (.ishr, 1) := by decide +kernel
theorem dX4_ofChange_26 : decode cX4_ofChange 26 = .ok (.istore_n 3, 1) := by decide +kernel
theorem dX4_ofChange_27 : decode cX4_ofChange 27 = .ok (.aload_n 0, 1) := by decide +kernel
theorem dX4_ofChange_28 : decode cX4_ofChange 28 = .ok (.aload_n 0, 1) := by decide +kernel
theorem dX4_ofChange_29 : decode cX4_ofChange 29 = .ok (.getfield 34, 3) := by decide +kernel
theorem dX4_ofChange_32 : decode cX4_ofChange 32 = .ok (.iload_n 1, 1) := by decide +kernel
theorem dX4_ofChange_33 : decode cX4_ofChange 33 = .ok (.iaload, 1) := by decide +kernel
theorem dX4_ofChange_34 : decode cX4_ofChange 34 = .ok (.iconst (-1), 1) := by decide +kernel
theorem dX4_ofChange_35 : decode cX4_ofChange 35 = .ok (.invokevirtual 51, 3) := by decide +kernel
theorem dX4_ofChange_38 : decode cX4_ofChange 38 = .ok (.istore 4, 2) := by decide +kernel
theorem dX4_ofChange_40 : decode cX4_ofChange 40 = .ok (.iload_n 2, 1) := by decide +kernel
theorem dX4_ofChange_41 : decode cX4_ofChange 41 = .ok (.tableswitch 80 0 3 #[31, 43, 54, 68], 31) := by decide +kernel
theorem dX4_ofChange_72 : decode cX4_ofChange 72 = .ok (.aload_n 0, 1) := by decide +kernel
theorem dX4_ofChange_73 : decode cX4_ofChange 73 = .ok (.getfield 37, 3) := by decide +kernel
theorem dX4_ofChange_76 : decode cX4_ofChange 76 = .ok (.iload_n 1, 1) := by decide +kernel
theorem dX4_ofChange_77 : decode cX4_ofChange 77 = .ok (.iaload, 1) := by decide +kernel
theorem dX4_ofChange_78 : decode cX4_ofChange 78 = .ok (.iload_n 3, 1) := by decide +kernel
theorem dX4_ofChange_79 : decode cX4_ofChange 79 = .ok (.iand, 1) := by decide +kernel
theorem dX4_ofChange_80 : decode cX4_ofChange 80 = .ok (.iload 4, 2) := by decide +kernel
theorem dX4_ofChange_82 : decode cX4_ofChange 82 = .ok (.iand, 1) := by decide +kernel
theorem dX4_ofChange_83 : decode cX4_ofChange 83 = .ok (.ireturn, 1) := by decide +kernel
theorem dX4_ofChange_84 : decode cX4_ofChange 84 = .ok (.aload_n 0, 1) := by decide +kernel
theorem dX4_ofChange_85 : decode cX4_ofChange 85 = .ok (.getfield 37, 3) := by decide +kernel
theorem dX4_ofChange_88 : decode cX4_ofChange 88 = .ok (.iload_n 1, 1) := by decide +kernel
theorem dX4_ofChange_89 : decode cX4_ofChange 89 = .ok (.iaload, 1) := by decide +kernel
theorem dX4_ofChange_90 : decode cX4_ofChange 90 = .ok (.iload_n 3, 1) := by decide +kernel
theorem dX4_ofChange_91 : decode cX4_ofChange 91 = .ok (.iconst (-1), 1) := by decide +kernel
theorem dX4_ofChange_92 : decode cX4_ofChange 92 = .ok (.ixor, 1) := by decide +kernel
theorem dX4_ofChange_93 : decode cX4_ofChange 93 = .ok (.iand, 1) := by decide +kernel
theorem dX4_ofChange_94 : decode cX4_ofChange 94 = .ok (.ireturn, 1) := by decide +kernel
theorem dX4_ofChange_95 : decode cX4_ofChange 95 = .ok (.aload_n 0, 1) := by decide +kernel
theorem dX4_ofChange_96 : decode cX4_ofChange 96 = .ok (.getfield 37, 3) := by decide +kernel
theorem dX4_ofChange_99 : decode cX4_ofChange 99 = .ok (.iload_n 1, 1) := by decide +kernel
theorem dX4_ofChange_100 : decode cX4_ofChange 100 = .ok (.iaload, 1) := by decide +kernel
theorem dX4_ofChange_101 : decode cX4_ofChange 101 = .ok (.iload_n 3, 1) := by decide +kernel
theorem dX4_ofChange_102 : decode cX4_ofChange 102 = .ok (.iand, 1) := by decide +kernel
theorem dX4_ofChange_103 : decode cX4_ofChange 103 = .ok (.iload 4, 2) := by decide +kernel
theorem dX4_ofChange_105 : decode cX4_ofChange 105 = .ok (.iconst (-1), 1) := by decide +kernel
theorem dX4_ofChange_106 : decode cX4_ofChange 106 = .ok (.ixor, 1) := by decide +kernel
theorem dX4_ofChange_107 : decode cX4_ofChange 107 = .ok (.iand, 1) := by decide +kernel
theorem dX4_ofChange_108 : decode cX4_ofChange 108 = .ok (.ireturn, 1) := by decide +kernel
theorem dX4_ofChange_109 : decode cX4_ofChange 109 = .ok (.aload_n 0, 1) := by decide +kernel
theorem dX4_ofChange_110 : decode cX4_ofChange 110 = .ok (.getfield 37, 3) := by decide +kernel
theorem dX4_ofChange_113 : decode cX4_ofChange 113 = .ok (.iload_n 1, 1) := by decide +kernel
theorem dX4_ofChange_114 : decode cX4_ofChange 114 = .ok (.iaload, 1) := by decide +kernel
theorem dX4_ofChange_115 : decode cX4_ofChange 115 = .ok (.iload 4, 2) := by decide +kernel
theorem dX4_ofChange_117 : decode cX4_ofChange 117 = .ok (.iconst (-1), 1) := by decide +kernel
theorem dX4_ofChange_118 : decode cX4_ofChange 118 = .ok (.ixor, 1) := by decide +kernel
theorem dX4_ofChange_119 : decode cX4_ofChange 119 = .ok (.iand, 1) := by decide +kernel
theorem dX4_ofChange_120 : decode cX4_ofChange 120 = .ok (.ireturn, 1) := by decide +kernel
theorem dX4_ofChange_121 : decode cX4_ofChange 121 = .ok (.bipush (-2), 2) := by decide +kernel
theorem dX4_ofChange_123 : decode cX4_ofChange 123 = .ok (.ireturn, 1) := by decide +kernel
theorem dX4_askedAll_0 : decode cX4_askedAll 0 = .ok (.iconst 0, 1) := by decide +kernel
theorem dX4_askedAll_1 : decode cX4_askedAll 1 = .ok (.istore_n 3, 1) := by decide +kernel
theorem dX4_askedAll_2 : decode cX4_askedAll 2 = .ok (.iconst 0, 1) := by decide +kernel
theorem dX4_askedAll_3 : decode cX4_askedAll 3 = .ok (.istore 4, 2) := by decide +kernel
theorem dX4_askedAll_5 : decode cX4_askedAll 5 = .ok (.iload 4, 2) := by decide +kernel
theorem dX4_askedAll_7 : decode cX4_askedAll 7 = .ok (.aload_n 0, 1) := by decide +kernel
theorem dX4_askedAll_8 : decode cX4_askedAll 8 = .ok (.getfield 15, 3) := by decide +kernel
theorem dX4_askedAll_11 : decode cX4_askedAll 11 = .ok (.if_icmp .ge 44, 3) := by decide +kernel
theorem dX4_askedAll_14 : decode cX4_askedAll 14 = .ok (.iload 4, 2) := by decide +kernel
theorem dX4_askedAll_16 : decode cX4_askedAll 16 = .ok (.bipush 20, 2) := by decide +kernel
theorem dX4_askedAll_18 : decode cX4_askedAll 18 = .ok (.if_icmp .ge 37, 3) := by decide +kernel
theorem dX4_askedAll_21 : decode cX4_askedAll 21 = .ok (.aload_n 0, 1) := by decide +kernel
theorem dX4_askedAll_22 : decode cX4_askedAll 22 = .ok (.getfield 31, 3) := by decide +kernel
theorem dX4_askedAll_25 : decode cX4_askedAll 25 = .ok (.iload 4, 2) := by decide +kernel
theorem dX4_askedAll_27 : decode cX4_askedAll 27 = .ok (.iaload, 1) := by decide +kernel
theorem dX4_askedAll_28 : decode cX4_askedAll 28 = .ok (.iload_n 1, 1) := by decide +kernel
theorem dX4_askedAll_29 : decode cX4_askedAll 29 = .ok (.if_icmp .ne 20, 3) := by decide +kernel
theorem dX4_askedAll_32 : decode cX4_askedAll 32 = .ok (.aload_n 0, 1) := by decide +kernel
theorem dX4_askedAll_33 : decode cX4_askedAll 33 = .ok (.getfield 37, 3) := by decide +kernel
theorem dX4_askedAll_36 : decode cX4_askedAll 36 = .ok (.iload 4, 2) := by decide +kernel
theorem dX4_askedAll_38 : decode cX4_askedAll 38 = .ok (.iaload, 1) := by decide +kernel
theorem dX4_askedAll_39 : decode cX4_askedAll 39 = .ok (.iload_n 2, 1) := by decide +kernel
theorem dX4_askedAll_40 : decode cX4_askedAll 40 = .ok (.iconst (-1), 1) := by decide +kernel
theorem dX4_askedAll_41 : decode cX4_askedAll 41 = .ok (.ixor, 1) := by decide +kernel
theorem dX4_askedAll_42 : decode cX4_askedAll 42 = .ok (.iand, 1) := by decide +kernel
theorem dX4_askedAll_43 : decode cX4_askedAll 43 = .ok (.ifCond .ne 6, 3) := by decide +kernel
theorem dX4_askedAll_46 : decode cX4_askedAll 46 = .ok (.iinc 3 1, 3) := by decide +kernel
theorem dX4_askedAll_49 : decode cX4_askedAll 49 = .ok (.iinc 4 1, 3) := by decide +kernel
theorem dX4_askedAll_52 : decode cX4_askedAll 52 = .ok (.goto (-47), 3) := by decide +kernel
theorem dX4_askedAll_55 : decode cX4_askedAll 55 = .ok (.iload_n 3, 1) := by decide +kernel
theorem dX4_askedAll_56 : decode cX4_askedAll 56 = .ok (.ireturn, 1) := by decide +kernel
theorem dX4_askedInVain_0 : decode cX4_askedInVain 0 = .ok (.iconst 0, 1) := by decide +kernel
theorem dX4_askedInVain_1 : decode cX4_askedInVain 1 = .ok (.istore_n 3, 1) := by decide +kernel
theorem dX4_askedInVain_2 : decode cX4_askedInVain 2 = .ok (.iconst 0, 1) := by decide +kernel
theorem dX4_askedInVain_3 : decode cX4_askedInVain 3 = .ok (.istore 4, 2) := by decide +kernel
theorem dX4_askedInVain_5 : decode cX4_askedInVain 5 = .ok (.iload 4, 2) := by decide +kernel
theorem dX4_askedInVain_7 : decode cX4_askedInVain 7 = .ok (.aload_n 0, 1) := by decide +kernel
theorem dX4_askedInVain_8 : decode cX4_askedInVain 8 = .ok (.getfield 15, 3) := by decide +kernel
theorem dX4_askedInVain_11 : decode cX4_askedInVain 11 = .ok (.if_icmp .ge 44, 3) := by decide +kernel
theorem dX4_askedInVain_14 : decode cX4_askedInVain 14 = .ok (.iload 4, 2) := by decide +kernel
theorem dX4_askedInVain_16 : decode cX4_askedInVain 16 = .ok (.bipush 20, 2) := by decide +kernel
theorem dX4_askedInVain_18 : decode cX4_askedInVain 18 = .ok (.if_icmp .ge 37, 3) := by decide +kernel
theorem dX4_askedInVain_21 : decode cX4_askedInVain 21 = .ok (.aload_n 0, 1) := by decide +kernel
theorem dX4_askedInVain_22 : decode cX4_askedInVain 22 = .ok (.getfield 31, 3) := by decide +kernel
theorem dX4_askedInVain_25 : decode cX4_askedInVain 25 = .ok (.iload 4, 2) := by decide +kernel
theorem dX4_askedInVain_27 : decode cX4_askedInVain 27 = .ok (.iaload, 1) := by decide +kernel
theorem dX4_askedInVain_28 : decode cX4_askedInVain 28 = .ok (.iload_n 1, 1) := by decide +kernel
theorem dX4_askedInVain_29 : decode cX4_askedInVain 29 = .ok (.if_icmp .ne 20, 3) := by decide +kernel
theorem dX4_askedInVain_32 : decode cX4_askedInVain 32 = .ok (.iload_n 2, 1) := by decide +kernel
theorem dX4_askedInVain_33 : decode cX4_askedInVain 33 = .ok (.aload_n 0, 1) := by decide +kernel
theorem dX4_askedInVain_34 : decode cX4_askedInVain 34 = .ok (.getfield 37, 3) := by decide +kernel
theorem dX4_askedInVain_37 : decode cX4_askedInVain 37 = .ok (.iload 4, 2) := by decide +kernel
theorem dX4_askedInVain_39 : decode cX4_askedInVain 39 = .ok (.iaload, 1) := by decide +kernel
theorem dX4_askedInVain_40 : decode cX4_askedInVain 40 = .ok (.iconst (-1), 1) := by decide +kernel
theorem dX4_askedInVain_41 : decode cX4_askedInVain 41 = .ok (.ixor, 1) := by decide +kernel
theorem dX4_askedInVain_42 : decode cX4_askedInVain 42 = .ok (.iand, 1) := by decide +kernel
theorem dX4_askedInVain_43 : decode cX4_askedInVain 43 = .ok (.ifCond .eq 6, 3) := by decide +kernel
theorem dX4_askedInVain_46 : decode cX4_askedInVain 46 = .ok (.iinc 3 1, 3) := by decide +kernel
theorem dX4_askedInVain_49 : decode cX4_askedInVain 49 = .ok (.iinc 4 1, 3) := by decide +kernel
theorem dX4_askedInVain_52 : decode cX4_askedInVain 52 = .ok (.goto (-47), 3) := by decide +kernel
theorem dX4_askedInVain_55 : decode cX4_askedInVain 55 = .ok (.iload_n 3, 1) := by decide +kernel
theorem dX4_askedInVain_56 : decode cX4_askedInVain 56 = .ok (.ireturn, 1) := by decide +kernel
set_option maxRecDepth 20000 in
theorem ggX4_leastRules_X4_cost : GoodIn wsX4_leastRules wsX4_cost := goodIn_r _ [13, 14, 15, 16, 12, 17, 18, 19, 20, 21, 22, 23, 24, 25, 26, 27, 28, 29, 30, 31, 36, 37, 38, 39, 40, 41, 42, 43, 44, 45, 46] (by decide +kernel) (by decide +kernel)
set_option maxRecDepth 20000 in
theorem gX4_leastRules_X4_cost : GoodIn wsX4_leastRules (wsV RX4 57 RX4 yX4_cost wsX4_cost) := goodIn_app (goodIn_of _ (by decide +kernel)) ggX4_leastRules_X4_cost
set_option maxRecDepth 20000 in
theorem ggX4_leastRules_X4_cheapestOf : GoodIn wsX4_leastRules wsX4_cheapestOf := goodIn_r _ [35, 2, 1, 3, 4, 5, 6, 7, 25, 26, 27, 28, 29, 30, 31, 36, 37, 38, 39, 40, 41, 42, 43, 44, 45, 46] (by decide +kernel) (by decide +kernel)
set_option maxRecDepth 20000 in
theorem gX4_leastRules_X4_cheapestOf : GoodIn wsX4_leastRules (wsV RX4 61 RX4 yX4_cheapestOf wsX4_cheapestOf) := goodIn_app (goodIn_of _ (by decide +kernel)) ggX4_leastRules_X4_cheapestOf
theorem dX4_leastRules_0 : decode cX4_leastRules 0 = .ok (.iconst 0, 1) := by decide +kernel
theorem dX4_leastRules_1 : decode cX4_leastRules 1 = .ok (.istore_n 2, 1) := by decide +kernel
theorem dX4_leastRules_2 : decode cX4_leastRules 2 = .ok (.iload_n 2, 1) := by decide +kernel
theorem dX4_leastRules_3 : decode cX4_leastRules 3 = .ok (.bipush 16, 2) := by decide +kernel
theorem dX4_leastRules_5 : decode cX4_leastRules 5 = .ok (.if_icmp .gt 26, 3) := by decide +kernel
theorem dX4_leastRules_8 : decode cX4_leastRules 8 = .ok (.aload_n 0, 1) := by decide +kernel
theorem dX4_leastRules_9 : decode cX4_leastRules 9 = .ok (.getfield 40, 3) := by decide +kernel
theorem dX4_leastRules_12 : decode cX4_leastRules 12 = .ok (.iload_n 2, 1) := by decide +kernel
theorem dX4_leastRules_13 : decode cX4_leastRules 13 = .ok (.iload_n 2, 1) := by decide +kernel
theorem dX4_leastRules_14 : decode cX4_leastRules 14 = .ok (.ifCond .ne 7, 3) := by decide +kernel
theorem dX4_leastRules_17 : decode cX4_leastRules 17 = .ok (.lconst 0, 1) := by decide +kernel
theorem dX4_leastRules_18 : decode cX4_leastRules 18 = .ok (.goto 6, 3) := by decide +kernel
theorem dX4_leastRules_21 : decode cX4_leastRules 21 = .ok (.ldc2_w 55, 3) := by decide +kernel
theorem dX4_leastRules_24 : decode cX4_leastRules 24 = .ok (.lastore, 1) := by decide +kernel
theorem dX4_leastRules_25 : decode cX4_leastRules 25 = .ok (.iinc 2 1, 3) := by decide +kernel
theorem dX4_leastRules_28 : decode cX4_leastRules 28 = .ok (.goto (-26), 3) := by decide +kernel
theorem dX4_leastRules_31 : decode cX4_leastRules 31 = .ok (.iconst 0, 1) := by decide +kernel
theorem dX4_leastRules_32 : decode cX4_leastRules 32 = .ok (.istore_n 2, 1) := by decide +kernel
theorem dX4_leastRules_33 : decode cX4_leastRules 33 = .ok (.iload_n 2, 1) := by decide +kernel
theorem dX4_leastRules_34 : decode cX4_leastRules 34 = .ok (.iconst 4, 1) := by decide +kernel
theorem dX4_leastRules_35 : decode cX4_leastRules 35 = .ok (.if_icmp .ge 59, 3) := by decide +kernel
theorem dX4_leastRules_38 : decode cX4_leastRules 38 = .ok (.iconst 0, 1) := by decide +kernel
theorem dX4_leastRules_39 : decode cX4_leastRules 39 = .ok (.istore_n 3, 1) := by decide +kernel
theorem dX4_leastRules_40 : decode cX4_leastRules 40 = .ok (.iload_n 3, 1) := by decide +kernel
theorem dX4_leastRules_41 : decode cX4_leastRules 41 = .ok (.bipush 16, 2) := by decide +kernel
theorem dX4_leastRules_43 : decode cX4_leastRules 43 = .ok (.if_icmp .ge 21, 3) := by decide +kernel
theorem dX4_leastRules_46 : decode cX4_leastRules 46 = .ok (.aload_n 0, 1) := by decide +kernel
theorem dX4_leastRules_47 : decode cX4_leastRules 47 = .ok (.getfield 44, 3) := by decide +kernel
theorem dX4_leastRules_50 : decode cX4_leastRules 50 = .ok (.iload_n 3, 1) := by decide +kernel
theorem dX4_leastRules_51 : decode cX4_leastRules 51 = .ok (.aload_n 0, 1) := by decide +kernel
theorem dX4_leastRules_52 : decode cX4_leastRules 52 = .ok (.iload_n 2, 1) := by decide +kernel
theorem dX4_leastRules_53 : decode cX4_leastRules 53 = .ok (.iload_n 3, 1) := by decide +kernel
theorem dX4_leastRules_54 : decode cX4_leastRules 54 = .ok (.invokevirtual 57, 3) := by decide +kernel
theorem dX4_leastRules_57 : decode cX4_leastRules 57 = .ok (.lastore, 1) := by decide +kernel
theorem dX4_leastRules_58 : decode cX4_leastRules 58 = .ok (.iinc 3 1, 3) := by decide +kernel
theorem dX4_leastRules_61 : decode cX4_leastRules 61 = .ok (.goto (-21), 3) := by decide +kernel
theorem dX4_leastRules_64 : decode cX4_leastRules 64 = .ok (.bipush 16, 2) := by decide +kernel
theorem dX4_leastRules_66 : decode cX4_leastRules 66 = .ok (.istore_n 3, 1) := by decide +kernel
theorem dX4_leastRules_67 : decode cX4_leastRules 67 = .ok (.iload_n 3, 1) := by decide +kernel
theorem dX4_leastRules_68 : decode cX4_leastRules 68 = .ok (.ifCond .lt 20, 3) := by decide +kernel
theorem dX4_leastRules_71 : decode cX4_leastRules 71 = .ok (.aload_n 0, 1) := by decide +kernel
theorem dX4_leastRules_72 : decode cX4_leastRules 72 = .ok (.getfield 40, 3) := by decide +kernel
theorem dX4_leastRules_75 : decode cX4_leastRules 75 = .ok (.iload_n 3, 1) := by decide +kernel
theorem dX4_leastRules_76 : decode cX4_leastRules 76 = .ok (.aload_n 0, 1) := by decide +kernel
theorem dX4_leastRules_77 : decode cX4_leastRules 77 = .ok (.iload_n 3, 1) := by decide +kernel
theorem dX4_leastRules_78 : decode cX4_leastRules 78 = .ok (.invokevirtual 61, 3) := by decide +kernel
theorem dX4_leastRules_81 : decode cX4_leastRules 81 = .ok (.lastore, 1) := by decide +kernel
theorem dX4_leastRules_82 : decode cX4_leastRules 82 = .ok (.iinc 3 (-1), 3) := by decide +kernel
theorem dX4_leastRules_85 : decode cX4_leastRules 85 = .ok (.goto (-18), 3) := by decide +kernel
theorem dX4_leastRules_88 : decode cX4_leastRules 88 = .ok (.iinc 2 1, 3) := by decide +kernel
theorem dX4_leastRules_91 : decode cX4_leastRules 91 = .ok (.goto (-58), 3) := by decide +kernel
theorem dX4_leastRules_94 : decode cX4_leastRules 94 = .ok (.ldc2_w 55, 3) := by decide +kernel
theorem dX4_leastRules_97 : decode cX4_leastRules 97 = .ok (.lstore_n 2, 1) := by decide +kernel
theorem dX4_leastRules_98 : decode cX4_leastRules 98 = .ok (.iconst 0, 1) := by decide +kernel
theorem dX4_leastRules_99 : decode cX4_leastRules 99 = .ok (.istore 4, 2) := by decide +kernel
theorem dX4_leastRules_101 : decode cX4_leastRules 101 = .ok (.iload 4, 2) := by decide +kernel
theorem dX4_leastRules_103 : decode cX4_leastRules 103 = .ok (.iload_n 1, 1) := by decide +kernel
theorem dX4_leastRules_104 : decode cX4_leastRules 104 = .ok (.if_icmp .gt 28, 3) := by decide +kernel
theorem dX4_leastRules_107 : decode cX4_leastRules 107 = .ok (.iload 4, 2) := by decide +kernel
theorem dX4_leastRules_109 : decode cX4_leastRules 109 = .ok (.bipush 16, 2) := by decide +kernel
theorem dX4_leastRules_111 : decode cX4_leastRules 111 = .ok (.if_icmp .gt 21, 3) := by decide +kernel
theorem dX4_leastRules_114 : decode cX4_leastRules 114 = .ok (.lload_n 2, 1) := by decide +kernel
theorem dX4_leastRules_115 : decode cX4_leastRules 115 = .ok (.aload_n 0, 1) := by decide +kernel
theorem dX4_leastRules_116 : decode cX4_leastRules 116 = .ok (.getfield 40, 3) := by decide +kernel
theorem dX4_leastRules_119 : decode cX4_leastRules 119 = .ok (.iload 4, 2) := by decide +kernel
theorem dX4_leastRules_121 : decode cX4_leastRules 121 = .ok (.laload, 1) := by decide +kernel
theorem dX4_leastRules_122 : decode cX4_leastRules 122 = .ok (.invokestatic 65, 3) := by decide +kernel
theorem dX4_leastRules_125 : decode cX4_leastRules 125 = .ok (.lstore_n 2, 1) := by decide +kernel
theorem dX4_leastRules_126 : decode cX4_leastRules 126 = .ok (.iinc 4 1, 3) := by decide +kernel
theorem dX4_leastRules_129 : decode cX4_leastRules 129 = .ok (.goto (-28), 3) := by decide +kernel
theorem dX4_leastRules_132 : decode cX4_leastRules 132 = .ok (.lload_n 2, 1) := by decide +kernel
theorem dX4_leastRules_133 : decode cX4_leastRules 133 = .ok (.ldc2_w 71, 3) := by decide +kernel
theorem dX4_leastRules_136 : decode cX4_leastRules 136 = .ok (.land, 1) := by decide +kernel
theorem dX4_leastRules_137 : decode cX4_leastRules 137 = .ok (.l2i, 1) := by decide +kernel
theorem dX4_leastRules_138 : decode cX4_leastRules 138 = .ok (.ireturn, 1) := by decide +kernel
set_option maxRecDepth 20000 in
theorem ggX4_cheapestOf_J6_bitCount_0f7a4 : GoodIn wsX4_cheapestOf wsJ6_bitCount_0f7a4 := goodIn_r _ [11, 12, 13, 14] (by decide +kernel) (by decide +kernel)
set_option maxRecDepth 20000 in
theorem gX4_cheapestOf_J6_bitCount_0f7a4 : GoodIn wsX4_cheapestOf (va_wsS RX4 73 yJ6_bitCount_0f7a4 wsJ6_bitCount_0f7a4) := goodIn_app (goodIn_of _ (by decide +kernel)) ggX4_cheapestOf_J6_bitCount_0f7a4
theorem dX4_cheapestOf_0 : decode cX4_cheapestOf 0 = .ok (.ldc2_w 55, 3) := by decide +kernel
theorem dX4_cheapestOf_3 : decode cX4_cheapestOf 3 = .ok (.lstore_n 2, 1) := by decide +kernel
theorem dX4_cheapestOf_4 : decode cX4_cheapestOf 4 = .ok (.iconst 0, 1) := by decide +kernel
theorem dX4_cheapestOf_5 : decode cX4_cheapestOf 5 = .ok (.istore 4, 2) := by decide +kernel
theorem dX4_cheapestOf_7 : decode cX4_cheapestOf 7 = .ok (.iload 4, 2) := by decide +kernel
theorem dX4_cheapestOf_9 : decode cX4_cheapestOf 9 = .ok (.bipush 16, 2) := by decide +kernel
theorem dX4_cheapestOf_11 : decode cX4_cheapestOf 11 = .ok (.if_icmp .ge 64, 3) := by decide +kernel
theorem dX4_cheapestOf_14 : decode cX4_cheapestOf 14 = .ok (.iload_n 1, 1) := by decide +kernel
theorem dX4_cheapestOf_15 : decode cX4_cheapestOf 15 = .ok (.iload 4, 2) := by decide +kernel
theorem dX4_cheapestOf_17 : decode cX4_cheapestOf 17 = .ok (.invokestatic 73, 3) := by decide +kernel
theorem dX4_cheapestOf_20 : decode cX4_cheapestOf 20 = .ok (.isub, 1) := by decide +kernel
theorem dX4_cheapestOf_21 : decode cX4_cheapestOf 21 = .ok (.istore 5, 2) := by decide +kernel
theorem dX4_cheapestOf_23 : decode cX4_cheapestOf 23 = .ok (.iload 5, 2) := by decide +kernel
theorem dX4_cheapestOf_25 : decode cX4_cheapestOf 25 = .ok (.ifCond .lt 44, 3) := by decide +kernel
theorem dX4_cheapestOf_28 : decode cX4_cheapestOf 28 = .ok (.iload 5, 2) := by decide +kernel
theorem dX4_cheapestOf_30 : decode cX4_cheapestOf 30 = .ok (.bipush 16, 2) := by decide +kernel
theorem dX4_cheapestOf_32 : decode cX4_cheapestOf 32 = .ok (.if_icmp .gt 37, 3) := by decide +kernel
theorem dX4_cheapestOf_35 : decode cX4_cheapestOf 35 = .ok (.aload_n 0, 1) := by decide +kernel
theorem dX4_cheapestOf_36 : decode cX4_cheapestOf 36 = .ok (.getfield 40, 3) := by decide +kernel
theorem dX4_cheapestOf_39 : decode cX4_cheapestOf 39 = .ok (.iload 5, 2) := by decide +kernel
theorem dX4_cheapestOf_41 : decode cX4_cheapestOf 41 = .ok (.laload, 1) := by decide +kernel
theorem dX4_cheapestOf_42 : decode cX4_cheapestOf 42 = .ok (.ldc2_w 55, 3) := by decide +kernel
theorem dX4_cheapestOf_45 : decode cX4_cheapestOf 45 = .ok (.lcmp, 1) := by decide +kernel
theorem dX4_cheapestOf_46 : decode cX4_cheapestOf 46 = .ok (.ifCond .eq 23, 3) := by decide +kernel
theorem dX4_cheapestOf_49 : decode cX4_cheapestOf 49 = .ok (.lload_n 2, 1) := by decide +kernel
theorem dX4_cheapestOf_50 : decode cX4_cheapestOf 50 = .ok (.aload_n 0, 1) := by decide +kernel
theorem dX4_cheapestOf_51 : decode cX4_cheapestOf 51 = .ok (.getfield 40, 3) := by decide +kernel
theorem dX4_cheapestOf_54 : decode cX4_cheapestOf 54 = .ok (.iload 5, 2) := by decide +kernel
theorem dX4_cheapestOf_56 : decode cX4_cheapestOf 56 = .ok (.laload, 1) := by decide +kernel
theorem dX4_cheapestOf_57 : decode cX4_cheapestOf 57 = .ok (.aload_n 0, 1) := by decide +kernel
theorem dX4_cheapestOf_58 : decode cX4_cheapestOf 58 = .ok (.getfield 44, 3) := by decide +kernel
theorem dX4_cheapestOf_61 : decode cX4_cheapestOf 61 = .ok (.iload 4, 2) := by decide +kernel
theorem dX4_cheapestOf_63 : decode cX4_cheapestOf 63 = .ok (.laload, 1) := by decide +kernel
theorem dX4_cheapestOf_64 : decode cX4_cheapestOf 64 = .ok (.ladd, 1) := by decide +kernel
theorem dX4_cheapestOf_65 : decode cX4_cheapestOf 65 = .ok (.invokestatic 65, 3) := by decide +kernel
theorem dX4_cheapestOf_68 : decode cX4_cheapestOf 68 = .ok (.lstore_n 2, 1) := by decide +kernel
theorem dX4_cheapestOf_69 : decode cX4_cheapestOf 69 = .ok (.iinc 4 1, 3) := by decide +kernel
theorem dX4_cheapestOf_72 : decode cX4_cheapestOf 72 = .ok (.goto (-65), 3) := by decide +kernel
theorem dX4_cheapestOf_75 : decode cX4_cheapestOf 75 = .ok (.lload_n 2, 1) := by decide +kernel
theorem dX4_cheapestOf_76 : decode cX4_cheapestOf 76 = .ok (.lreturn, 1) := by decide +kernel
set_option maxRecDepth 20000 in
theorem ggX4_cost_X4_askedInVain : GoodIn wsX4_cost wsX4_askedInVain := goodIn_r _ [5, 6, 7, 8, 20, 21, 22, 23, 24, 25, 26, 27, 28, 29, 30] (by decide +kernel) (by decide +kernel)
set_option maxRecDepth 20000 in
theorem gX4_cost_X4_askedInVain : GoodIn wsX4_cost (wsV RX4 79 RX4 yX4_askedInVain wsX4_askedInVain) := goodIn_app (goodIn_of _ (by decide +kernel)) ggX4_cost_X4_askedInVain
set_option maxRecDepth 20000 in
theorem ggX4_cost_X4_askedAll : GoodIn wsX4_cost wsX4_askedAll := goodIn_r _ [12, 6, 7, 8, 20, 21, 22, 23, 24, 25, 26, 27, 28, 29, 30] (by decide +kernel) (by decide +kernel)
set_option maxRecDepth 20000 in
theorem gX4_cost_X4_askedAll : GoodIn wsX4_cost (wsV RX4 82 RX4 yX4_askedAll wsX4_askedAll) := goodIn_app (goodIn_of _ (by decide +kernel)) ggX4_cost_X4_askedAll
set_option maxRecDepth 20000 in
theorem ggX4_cost_J6_bitCount_0f7a4 : GoodIn wsX4_cost wsJ6_bitCount_0f7a4 := goodIn_r _ [16, 17, 18, 19] (by decide +kernel) (by decide +kernel)
set_option maxRecDepth 20000 in
theorem gX4_cost_J6_bitCount_0f7a4 : GoodIn wsX4_cost (va_wsS RX4 73 yJ6_bitCount_0f7a4 wsJ6_bitCount_0f7a4) := goodIn_app (goodIn_of _ (by decide +kernel)) ggX4_cost_J6_bitCount_0f7a4
theorem dX4_cost_0 : decode cX4_cost 0 = .ok (.aload_n 0, 1) := by decide +kernel
theorem dX4_cost_1 : decode cX4_cost 1 = .ok (.iload_n 1, 1) := by decide +kernel
theorem dX4_cost_2 : decode cX4_cost 2 = .ok (.iload_n 2, 1) := by decide +kernel
theorem dX4_cost_3 : decode cX4_cost 3 = .ok (.invokevirtual 79, 3) := by decide +kernel
theorem dX4_cost_6 : decode cX4_cost 6 = .ok (.i2l, 1) := by decide +kernel
theorem dX4_cost_7 : decode cX4_cost 7 = .ok (.lstore_n 3, 1) := by decide +kernel
theorem dX4_cost_8 : decode cX4_cost 8 = .ok (.aload_n 0, 1) := by decide +kernel
theorem dX4_cost_9 : decode cX4_cost 9 = .ok (.iload_n 1, 1) := by decide +kernel
theorem dX4_cost_10 : decode cX4_cost 10 = .ok (.iload_n 2, 1) := by decide +kernel
theorem dX4_cost_11 : decode cX4_cost 11 = .ok (.invokevirtual 82, 3) := by decide +kernel
theorem dX4_cost_14 : decode cX4_cost 14 = .ok (.i2l, 1) := by decide +kernel
theorem dX4_cost_15 : decode cX4_cost 15 = .ok (.lstore 5, 2) := by decide +kernel
theorem dX4_cost_17 : decode cX4_cost 17 = .ok (.iload_n 2, 1) := by decide +kernel
theorem dX4_cost_18 : decode cX4_cost 18 = .ok (.invokestatic 73, 3) := by decide +kernel
theorem dX4_cost_21 : decode cX4_cost 21 = .ok (.i2l, 1) := by decide +kernel
theorem dX4_cost_22 : decode cX4_cost 22 = .ok (.lstore 7, 2) := by decide +kernel
theorem dX4_cost_24 : decode cX4_cost 24 = .ok (.lload_n 3, 1) := by decide +kernel
theorem dX4_cost_25 : decode cX4_cost 25 = .ok (.bipush 24, 2) := by decide +kernel
theorem dX4_cost_27 : decode cX4_cost 27 = .ok (.lshl, 1) := by decide +kernel
theorem dX4_cost_28 : decode cX4_cost 28 = .ok (.lload 5, 2) := by decide +kernel
theorem dX4_cost_30 : decode cX4_cost 30 = .ok (.bipush 32, 2) := by decide +kernel
theorem dX4_cost_32 : decode cX4_cost 32 = .ok (.lshl, 1) := by decide +kernel
theorem dX4_cost_33 : decode cX4_cost 33 = .ok (.lsub, 1) := by decide +kernel
theorem dX4_cost_34 : decode cX4_cost 34 = .ok (.lload 7, 2) := by decide +kernel
theorem dX4_cost_36 : decode cX4_cost 36 = .ok (.bipush 16, 2) := by decide +kernel
theorem dX4_cost_38 : decode cX4_cost 38 = .ok (.lshl, 1) := by decide +kernel
theorem dX4_cost_39 : decode cX4_cost 39 = .ok (.ladd, 1) := by decide +kernel
theorem dX4_cost_40 : decode cX4_cost 40 = .ok (.iload_n 2, 1) := by decide +kernel
theorem dX4_cost_41 : decode cX4_cost 41 = .ok (.iconst 4, 1) := by decide +kernel
theorem dX4_cost_42 : decode cX4_cost 42 = .ok (.iload_n 1, 1) := by decide +kernel
theorem dX4_cost_43 : decode cX4_cost 43 = .ok (.imul, 1) := by decide +kernel
theorem dX4_cost_44 : decode cX4_cost 44 = .ok (.ishl, 1) := by decide +kernel
theorem dX4_cost_45 : decode cX4_cost 45 = .ok (.i2l, 1) := by decide +kernel
theorem dX4_cost_46 : decode cX4_cost 46 = .ok (.ladd, 1) := by decide +kernel
theorem dX4_cost_47 : decode cX4_cost 47 = .ok (.lreturn, 1) := by decide +kernel
theorem dX5_init_0 : decode cX5_init 0 = .ok (.aload_n 0, 1) := by decide +kernel
theorem dX5_init_1 : decode cX5_init 1 = .ok (.invokespecial 1, 3) := by decide +kernel
theorem dX5_init_4 : decode cX5_init 4 = .ok (.aload_n 0, 1) := by decide +kernel
theorem dX5_init_5 : decode cX5_init 5 = .ok (.iload_n 1, 1) := by decide +kernel
theorem dX5_init_6 : decode cX5_init 6 = .ok (.putfield 7, 3) := by decide +kernel
theorem dX5_init_9 : decode cX5_init 9 = .ok (.aload_n 0, 1) := by decide +kernel
theorem dX5_init_10 : decode cX5_init 10 = .ok (.iload_n 2, 1) := by decide +kernel
theorem dX5_init_11 : decode cX5_init 11 = .ok (.putfield 13, 3) := by decide +kernel
theorem dX5_init_14 : decode cX5_init 14 = .ok (.aload_n 0, 1) := by decide +kernel
theorem dX5_init_15 : decode cX5_init 15 = .ok (.iload_n 3, 1) := by decide +kernel
theorem dX5_init_16 : decode cX5_init 16 = .ok (.putfield 16, 3) := by decide +kernel
theorem dX5_init_19 : decode cX5_init 19 = .ok (.aload_n 0, 1) := by decide +kernel
theorem dX5_init_20 : decode cX5_init 20 = .ok (.aload 4, 2) := by decide +kernel
theorem dX5_init_22 : decode cX5_init 22 = .ok (.putfield 19, 3) := by decide +kernel
theorem dX5_init_25 : decode cX5_init 25 = .ok (.aload_n 0, 1) := by decide +kernel
theorem dX5_init_26 : decode cX5_init 26 = .ok (.iload 5, 2) := by decide +kernel
theorem dX5_init_28 : decode cX5_init 28 = .ok (.putfield 23, 3) := by decide +kernel
theorem dX5_init_31 : decode cX5_init 31 = .ok (.aload_n 0, 1) := by decide +kernel
theorem dX5_init_32 : decode cX5_init 32 = .ok (.iload 6, 2) := by decide +kernel
theorem dX5_init_34 : decode cX5_init 34 = .ok (.putfield 26, 3) := by decide +kernel
theorem dX5_init_37 : decode cX5_init 37 = .ok (.aload_n 0, 1) := by decide +kernel
theorem dX5_init_38 : decode cX5_init 38 = .ok (.iload 7, 2) := by decide +kernel
theorem dX5_init_40 : decode cX5_init 40 = .ok (.putfield 29, 3) := by decide +kernel
theorem dX5_init_43 : decode cX5_init 43 = .ok (.return_, 1) := by decide +kernel
theorem dX6_init_0 : decode cX6_init 0 = .ok (.aload_n 0, 1) := by decide +kernel
theorem dX6_init_1 : decode cX6_init 1 = .ok (.invokespecial 1, 3) := by decide +kernel
theorem dX6_init_4 : decode cX6_init 4 = .ok (.aload_n 0, 1) := by decide +kernel
theorem dX6_init_5 : decode cX6_init 5 = .ok (.iconst 0, 1) := by decide +kernel
theorem dX6_init_6 : decode cX6_init 6 = .ok (.putfield 7, 3) := by decide +kernel
theorem dX6_init_9 : decode cX6_init 9 = .ok (.aload_n 0, 1) := by decide +kernel
theorem dX6_init_10 : decode cX6_init 10 = .ok (.iconst 0, 1) := by decide +kernel
theorem dX6_init_11 : decode cX6_init 11 = .ok (.putfield 13, 3) := by decide +kernel
theorem dX6_init_14 : decode cX6_init 14 = .ok (.aload_n 0, 1) := by decide +kernel
theorem dX6_init_15 : decode cX6_init 15 = .ok (.bipush 12, 2) := by decide +kernel
theorem dX6_init_17 : decode cX6_init 17 = .ok (.newarray .int, 2) := by decide +kernel
theorem dX6_init_19 : decode cX6_init 19 = .ok (.putfield 16, 3) := by decide +kernel
theorem dX6_init_22 : decode cX6_init 22 = .ok (.aload_n 0, 1) := by decide +kernel
theorem dX6_init_23 : decode cX6_init 23 = .ok (.bipush 12, 2) := by decide +kernel
theorem dX6_init_25 : decode cX6_init 25 = .ok (.newarray .int, 2) := by decide +kernel
theorem dX6_init_27 : decode cX6_init 27 = .ok (.putfield 20, 3) := by decide +kernel
theorem dX6_init_30 : decode cX6_init 30 = .ok (.aload_n 0, 1) := by decide +kernel
theorem dX6_init_31 : decode cX6_init 31 = .ok (.bipush 12, 2) := by decide +kernel
theorem dX6_init_33 : decode cX6_init 33 = .ok (.newarray .int, 2) := by decide +kernel
theorem dX6_init_35 : decode cX6_init 35 = .ok (.putfield 23, 3) := by decide +kernel
theorem dX6_init_38 : decode cX6_init 38 = .ok (.aload_n 0, 1) := by decide +kernel
theorem dX6_init_39 : decode cX6_init 39 = .ok (.bipush 12, 2) := by decide +kernel
theorem dX6_init_41 : decode cX6_init 41 = .ok (.newarray .int, 2) := by decide +kernel
theorem dX6_init_43 : decode cX6_init 43 = .ok (.putfield 26, 3) := by decide +kernel
theorem dX6_init_46 : decode cX6_init 46 = .ok (.return_, 1) := by decide +kernel
theorem dX6_add_0 : decode cX6_add 0 = .ok (.aload_n 0, 1) := by decide +kernel
theorem dX6_add_1 : decode cX6_add 1 = .ok (.getfield 7, 3) := by decide +kernel
theorem dX6_add_4 : decode cX6_add 4 = .ok (.ifCond .lt 12, 3) := by decide +kernel
theorem dX6_add_7 : decode cX6_add 7 = .ok (.aload_n 0, 1) := by decide +kernel
theorem dX6_add_8 : decode cX6_add 8 = .ok (.getfield 7, 3) := by decide +kernel
theorem dX6_add_11 : decode cX6_add 11 = .ok (.bipush 12, 2) := by decide +kernel
theorem dX6_add_13 : decode cX6_add 13 = .ok (.if_icmp .lt 4, 3) := by decide +kernel
theorem dX6_add_16 : decode cX6_add 16 = .ok (.return_, 1) := by decide +kernel
theorem dX6_add_17 : decode cX6_add 17 = .ok (.aload_n 0, 1) := by decide +kernel
theorem dX6_add_18 : decode cX6_add 18 = .ok (.getfield 16, 3) := by decide +kernel
theorem dX6_add_21 : decode cX6_add 21 = .ok (.aload_n 0, 1) := by decide +kernel
theorem dX6_add_22 : decode cX6_add 22 = .ok (.getfield 7, 3) := by decide +kernel
theorem dX6_add_25 : decode cX6_add 25 = .ok (.iload_n 1, 1) := by decide +kernel
theorem dX6_add_26 : decode cX6_add 26 = .ok (.iastore, 1) := by decide +kernel
theorem dX6_add_27 : decode cX6_add 27 = .ok (.aload_n 0, 1) := by decide +kernel
theorem dX6_add_28 : decode cX6_add 28 = .ok (.getfield 20, 3) := by decide +kernel
theorem dX6_add_31 : decode cX6_add 31 = .ok (.aload_n 0, 1) := by decide +kernel
theorem dX6_add_32 : decode cX6_add 32 = .ok (.getfield 7, 3) := by decide +kernel
theorem dX6_add_35 : decode cX6_add 35 = .ok (.iload_n 2, 1) := by decide +kernel
theorem dX6_add_36 : decode cX6_add 36 = .ok (.iastore, 1) := by decide +kernel
theorem dX6_add_37 : decode cX6_add 37 = .ok (.aload_n 0, 1) := by decide +kernel
theorem dX6_add_38 : decode cX6_add 38 = .ok (.getfield 23, 3) := by decide +kernel
theorem dX6_add_41 : decode cX6_add 41 = .ok (.aload_n 0, 1) := by decide +kernel
theorem dX6_add_42 : decode cX6_add 42 = .ok (.getfield 7, 3) := by decide +kernel
theorem dX6_add_45 : decode cX6_add 45 = .ok (.iload_n 3, 1) := by decide +kernel
theorem dX6_add_46 : decode cX6_add 46 = .ok (.iastore, 1) := by decide +kernel
theorem dX6_add_47 : decode cX6_add 47 = .ok (.aload_n 0, 1) := by decide +kernel
theorem dX6_add_48 : decode cX6_add 48 = .ok (.getfield 26, 3) := by decide +kernel
theorem dX6_add_51 : decode cX6_add 51 = .ok (.aload_n 0, 1) := by decide +kernel
theorem dX6_add_52 : decode cX6_add 52 = .ok (.getfield 7, 3) := by decide +kernel
theorem dX6_add_55 : decode cX6_add 55 = .ok (.iload 4, 2) := by decide +kernel
theorem dX6_add_57 : decode cX6_add 57 = .ok (.iastore, 1) := by decide +kernel
theorem dX6_add_58 : decode cX6_add 58 = .ok (.aload_n 0, 1) := by decide +kernel
theorem dX6_add_59 : decode cX6_add 59 = .ok (.dup, 1) := by decide +kernel
theorem dX6_add_60 : decode cX6_add 60 = .ok (.getfield 13, 3) := by decide +kernel
theorem dX6_add_63 : decode cX6_add 63 = .ok (.iload 5, 2) := by decide +kernel
theorem dX6_add_65 : decode cX6_add 65 = .ok (.ifCond .eq 12, 3) := by decide +kernel
theorem dX6_add_68 : decode cX6_add 68 = .ok (.iconst 1, 1) := by decide +kernel
theorem dX6_add_69 : decode cX6_add 69 = .ok (.aload_n 0, 1) := by decide +kernel
theorem dX6_add_70 : decode cX6_add 70 = .ok (.getfield 7, 3) := by decide +kernel
theorem dX6_add_73 : decode cX6_add 73 = .ok (.ishl, 1) := by decide +kernel
theorem dX6_add_74 : decode cX6_add 74 = .ok (.goto 4, 3) := by decide +kernel
theorem dX6_add_77 : decode cX6_add 77 = .ok (.iconst 0, 1) := by decide +kernel
theorem dX6_add_78 : decode cX6_add 78 = .ok (.ior, 1) := by decide +kernel
theorem dX6_add_79 : decode cX6_add 79 = .ok (.putfield 13, 3) := by decide +kernel
theorem dX6_add_82 : decode cX6_add 82 = .ok (.aload_n 0, 1) := by decide +kernel
theorem dX6_add_83 : decode cX6_add 83 = .ok (.dup, 1) := by decide +kernel
theorem dX6_add_84 : decode cX6_add 84 = .ok (.getfield 7, 3) := by decide +kernel
theorem dX6_add_87 : decode cX6_add 87 = .ok (.iconst 1, 1) := by decide +kernel
theorem dX6_add_88 : decode cX6_add 88 = .ok (.iadd, 1) := by decide +kernel
theorem dX6_add_89 : decode cX6_add 89 = .ok (.putfield 7, 3) := by decide +kernel
theorem dX6_add_92 : decode cX6_add 92 = .ok (.return_, 1) := by decide +kernel
theorem dX6_has_0 : decode cX6_has 0 = .ok (.iload_n 1, 1) := by decide +kernel
theorem dX6_has_1 : decode cX6_has 1 = .ok (.ifCond .lt 15, 3) := by decide +kernel
theorem dX6_has_4 : decode cX6_has 4 = .ok (.iload_n 1, 1) := by decide +kernel
theorem dX6_has_5 : decode cX6_has 5 = .ok (.aload_n 0, 1) := by decide +kernel
theorem dX6_has_6 : decode cX6_has 6 = .ok (.getfield 7, 3) := by decide +kernel
theorem dX6_has_9 : decode cX6_has 9 = .ok (.if_icmp .ge 7, 3) := by decide +kernel
theorem dX6_has_12 : decode cX6_has 12 = .ok (.iconst 1, 1) := by decide +kernel
theorem dX6_has_13 : decode cX6_has 13 = .ok (.goto 4, 3) := by decide +kernel
theorem dX6_has_16 : decode cX6_has 16 = .ok (.iconst 0, 1) := by decide +kernel
theorem dX6_has_17 : decode cX6_has 17 = .ok (.ireturn, 1) := by decide +kernel
theorem dX6_xOf_0 : decode cX6_xOf 0 = .ok (.iload_n 1, 1) := by decide +kernel
theorem dX6_xOf_1 : decode cX6_xOf 1 = .ok (.ifCond .lt 18, 3) := by decide +kernel
theorem dX6_xOf_4 : decode cX6_xOf 4 = .ok (.iload_n 1, 1) := by decide +kernel
theorem dX6_xOf_5 : decode cX6_xOf 5 = .ok (.bipush 12, 2) := by decide +kernel
theorem dX6_xOf_7 : decode cX6_xOf 7 = .ok (.if_icmp .ge 12, 3) := by decide +kernel
theorem dX6_xOf_10 : decode cX6_xOf 10 = .ok (.aload_n 0, 1) := by decide +kernel
theorem dX6_xOf_11 : decode cX6_xOf 11 = .ok (.getfield 16, 3) := by decide +kernel
theorem dX6_xOf_14 : decode cX6_xOf 14 = .ok (.iload_n 1, 1) := by decide +kernel
theorem dX6_xOf_15 : decode cX6_xOf 15 = .ok (.iaload, 1) := by decide +kernel
theorem dX6_xOf_16 : decode cX6_xOf 16 = .ok (.goto 4, 3) := by decide +kernel
theorem dX6_xOf_19 : decode cX6_xOf 19 = .ok (.iconst 0, 1) := by decide +kernel
theorem dX6_xOf_20 : decode cX6_xOf 20 = .ok (.ireturn, 1) := by decide +kernel
theorem dX6_yOf_0 : decode cX6_yOf 0 = .ok (.iload_n 1, 1) := by decide +kernel
theorem dX6_yOf_1 : decode cX6_yOf 1 = .ok (.ifCond .lt 18, 3) := by decide +kernel
theorem dX6_yOf_4 : decode cX6_yOf 4 = .ok (.iload_n 1, 1) := by decide +kernel
theorem dX6_yOf_5 : decode cX6_yOf 5 = .ok (.bipush 12, 2) := by decide +kernel
theorem dX6_yOf_7 : decode cX6_yOf 7 = .ok (.if_icmp .ge 12, 3) := by decide +kernel
theorem dX6_yOf_10 : decode cX6_yOf 10 = .ok (.aload_n 0, 1) := by decide +kernel
theorem dX6_yOf_11 : decode cX6_yOf 11 = .ok (.getfield 20, 3) := by decide +kernel
theorem dX6_yOf_14 : decode cX6_yOf 14 = .ok (.iload_n 1, 1) := by decide +kernel
theorem dX6_yOf_15 : decode cX6_yOf 15 = .ok (.iaload, 1) := by decide +kernel
theorem dX6_yOf_16 : decode cX6_yOf 16 = .ok (.goto 4, 3) := by decide +kernel
theorem dX6_yOf_19 : decode cX6_yOf 19 = .ok (.iconst 0, 1) := by decide +kernel
theorem dX6_yOf_20 : decode cX6_yOf 20 = .ok (.ireturn, 1) := by decide +kernel
theorem dX6_peopleIn_0 : decode cX6_peopleIn 0 = .ok (.iload_n 2, 1) := by decide +kernel
theorem dX6_peopleIn_1 : decode cX6_peopleIn 1 = .ok (.bipush 24, 2) := by decide +kernel
theorem dX6_peopleIn_3 : decode cX6_peopleIn 3 = .ok (.irem, 1) := by decide +kernel
theorem dX6_peopleIn_4 : decode cX6_peopleIn 4 = .ok (.istore_n 3, 1) := by decide +kernel
theorem dX6_peopleIn_5 : decode cX6_peopleIn 5 = .ok (.iload_n 3, 1) := by decide +kernel
theorem dX6_peopleIn_6 : decode cX6_peopleIn 6 = .ok (.bipush 8, 2) := by decide +kernel
theorem dX6_peopleIn_8 : decode cX6_peopleIn 8 = .ok (.if_icmp .lt 24, 3) := by decide +kernel
theorem dX6_peopleIn_11 : decode cX6_peopleIn 11 = .ok (.iload_n 3, 1) := by decide +kernel
theorem dX6_peopleIn_12 : decode cX6_peopleIn 12 = .ok (.bipush 16, 2) := by decide +kernel
theorem dX6_peopleIn_14 : decode cX6_peopleIn 14 = .ok (.if_icmp .gt 18, 3) := by decide +kernel
theorem dX6_peopleIn_17 : decode cX6_peopleIn 17 = .ok (.iload_n 2, 1) := by decide +kernel
theorem dX6_peopleIn_18 : decode cX6_peopleIn 18 = .ok (.bipush 24, 2) := by decide +kernel
theorem dX6_peopleIn_20 : decode cX6_peopleIn 20 = .ok (.idiv, 1) := by decide +kernel
theorem dX6_peopleIn_21 : decode cX6_peopleIn 21 = .ok (.bipush 7, 2) := by decide +kernel
theorem dX6_peopleIn_23 : decode cX6_peopleIn 23 = .ok (.irem, 1) := by decide +kernel
theorem dX6_peopleIn_24 : decode cX6_peopleIn 24 = .ok (.iconst 5, 1) := by decide +kernel
theorem dX6_peopleIn_25 : decode cX6_peopleIn 25 = .ok (.if_icmp .ge 7, 3) := by decide +kernel
theorem dX6_peopleIn_28 : decode cX6_peopleIn 28 = .ok (.iconst 1, 1) := by decide +kernel
theorem dX6_peopleIn_29 : decode cX6_peopleIn 29 = .ok (.goto 4, 3) := by decide +kernel
theorem dX6_peopleIn_32 : decode cX6_peopleIn 32 = .ok (.iconst 0, 1) := by decide +kernel
theorem dX6_peopleIn_33 : decode cX6_peopleIn 33 = .ok (.istore 4, 2) := by decide +kernel
theorem dX6_peopleIn_35 : decode cX6_peopleIn 35 = .ok (.iconst 0, 1) := by decide +kernel
theorem dX6_peopleIn_36 : decode cX6_peopleIn 36 = .ok (.istore 5, 2) := by decide +kernel
theorem dX6_peopleIn_38 : decode cX6_peopleIn 38 = .ok (.iconst 0, 1) := by decide +kernel
theorem dX6_peopleIn_39 : decode cX6_peopleIn 39 = .ok (.istore 6, 2) := by decide +kernel
theorem dX6_peopleIn_41 : decode cX6_peopleIn 41 = .ok (.iload 6, 2) := by decide +kernel
theorem dX6_peopleIn_43 : decode cX6_peopleIn 43 = .ok (.aload_n 0, 1) := by decide +kernel
theorem dX6_peopleIn_44 : decode cX6_peopleIn 44 = .ok (.getfield 7, 3) := by decide +kernel
theorem dX6_peopleIn_47 : decode cX6_peopleIn 47 = .ok (.if_icmp .ge 52, 3) := by decide +kernel
theorem dX6_peopleIn_50 : decode cX6_peopleIn 50 = .ok (.iload 6, 2) := by decide +kernel
theorem dX6_peopleIn_52 : decode cX6_peopleIn 52 = .ok (.bipush 12, 2) := by decide +kernel
theorem dX6_peopleIn_54 : decode cX6_peopleIn 54 = .ok (.if_icmp .ge 45, 3) := by decide +kernel
theorem dX6_peopleIn_57 : decode cX6_peopleIn 57 = .ok (.iload_n 1, 1) := by decide +kernel
theorem dX6_peopleIn_58 : decode cX6_peopleIn 58 = .ok (.iload 6, 2) := by decide +kernel
theorem dX6_peopleIn_60 : decode cX6_peopleIn 60 = .ok (.ishr, 1) := by decide +kernel
theorem dX6_peopleIn_61 : decode cX6_peopleIn 61 = .ok (.iconst 1, 1) := by decide +kernel
theorem dX6_peopleIn_62 : decode cX6_peopleIn 62 = .ok (.iand, 1) := by decide +kernel
theorem dX6_peopleIn_63 : decode cX6_peopleIn 63 = .ok (.ifCond .eq 30, 3) := by decide +kernel
theorem dX6_peopleIn_66 : decode cX6_peopleIn 66 = .ok (.iload 5, 2) := by decide +kernel
theorem dX6_peopleIn_68 : decode cX6_peopleIn 68 = .ok (.iload 4, 2) := by decide +kernel
theorem dX6_peopleIn_70 : decode cX6_peopleIn 70 = .ok (.ifCond .eq 13, 3) := by decide +kernel
theorem dX6_peopleIn_73 : decode cX6_peopleIn 73 = .ok (.aload_n 0, 1) := by decide +kernel
theorem dX6_peopleIn_74 : decode cX6_peopleIn 74 = .ok (.getfield 23, 3) := by decide +kernel
theorem dX6_peopleIn_77 : decode cX6_peopleIn 77 = .ok (.iload 6, 2) := by decide +kernel
theorem dX6_peopleIn_79 : decode cX6_peopleIn 79 = .ok (.iaload, 1) := by decide +kernel
theorem dX6_peopleIn_80 : decode cX6_peopleIn 80 = .ok (.goto 10, 3) := by decide +kernel
theorem dX6_peopleIn_83 : decode cX6_peopleIn 83 = .ok (.aload_n 0, 1) := by decide +kernel
theorem dX6_peopleIn_84 : decode cX6_peopleIn 84 = .ok (.getfield 26, 3) := by decide +kernel
theorem dX6_peopleIn_87 : decode cX6_peopleIn 87 = .ok (.iload 6, 2) := by decide +kernel
theorem dX6_peopleIn_89 : decode cX6_peopleIn 89 = .ok (.iaload, 1) := by decide +kernel
theorem dX6_peopleIn_90 : decode cX6_peopleIn 90 = .ok (.iadd, 1) := by decide +kernel
theorem dX6_peopleIn_91 : decode cX6_peopleIn 91 = .ok (.istore 5, 2) := by decide +kernel
theorem dX6_peopleIn_93 : decode cX6_peopleIn 93 = .ok (.iinc 6 1, 3) := by decide +kernel
theorem dX6_peopleIn_96 : decode cX6_peopleIn 96 = .ok (.goto (-55), 3) := by decide +kernel
theorem dX6_peopleIn_99 : decode cX6_peopleIn 99 = .ok (.iload 5, 2) := by decide +kernel
theorem dX6_peopleIn_101 : decode cX6_peopleIn 101 = .ok (.ireturn, 1) := by decide +kernel
theorem dX7_init_0 : decode cX7_init 0 = .ok (.aload_n 0, 1) := by decide +kernel
theorem dX7_init_1 : decode cX7_init 1 = .ok (.invokespecial 3, 3) := by decide +kernel
theorem dX7_init_4 : decode cX7_init 4 = .ok (.aload_n 0, 1) := by decide +kernel
theorem dX7_init_5 : decode cX7_init 5 = .ok (.iconst 0, 1) := by decide +kernel
theorem dX7_init_6 : decode cX7_init 6 = .ok (.putfield 9, 3) := by decide +kernel
theorem dX7_init_9 : decode cX7_init 9 = .ok (.aload_n 0, 1) := by decide +kernel
theorem dX7_init_10 : decode cX7_init 10 = .ok (.iconst 0, 1) := by decide +kernel
theorem dX7_init_11 : decode cX7_init 11 = .ok (.putfield 15, 3) := by decide +kernel
theorem dX7_init_14 : decode cX7_init 14 = .ok (.aload_n 0, 1) := by decide +kernel
theorem dX7_init_15 : decode cX7_init 15 = .ok (.iconst 0, 1) := by decide +kernel
theorem dX7_init_16 : decode cX7_init 16 = .ok (.putfield 19, 3) := by decide +kernel
theorem dX7_init_19 : decode cX7_init 19 = .ok (.aload_n 0, 1) := by decide +kernel
theorem dX7_init_20 : decode cX7_init 20 = .ok (.bipush 60, 2) := by decide +kernel
theorem dX7_init_22 : decode cX7_init 22 = .ok (.newarray .long, 2) := by decide +kernel
theorem dX7_init_24 : decode cX7_init 24 = .ok (.putfield 22, 3) := by decide +kernel
theorem dX7_init_27 : decode cX7_init 27 = .ok (.return_, 1) := by decide +kernel
theorem dX7_begin_0 : decode cX7_begin 0 = .ok (.aload_n 0, 1) := by decide +kernel
theorem dX7_begin_1 : decode cX7_begin 1 = .ok (.iconst 1, 1) := by decide +kernel
theorem dX7_begin_2 : decode cX7_begin 2 = .ok (.putfield 9, 3) := by decide +kernel
theorem dX7_begin_5 : decode cX7_begin 5 = .ok (.aload_n 0, 1) := by decide +kernel
theorem dX7_begin_6 : decode cX7_begin 6 = .ok (.iload_n 1, 1) := by decide +kernel
theorem dX7_begin_7 : decode cX7_begin 7 = .ok (.putfield 15, 3) := by decide +kernel
theorem dX7_begin_10 : decode cX7_begin 10 = .ok (.aload_n 0, 1) := by decide +kernel
theorem dX7_begin_11 : decode cX7_begin 11 = .ok (.iconst 0, 1) := by decide +kernel
theorem dX7_begin_12 : decode cX7_begin 12 = .ok (.iload_n 2, 1) := by decide +kernel
theorem dX7_begin_13 : decode cX7_begin 13 = .ok (.bipush 60, 2) := by decide +kernel
theorem dX7_begin_15 : decode cX7_begin 15 = .ok (.invokestatic 26, 3) := by decide +kernel
theorem dX7_begin_18 : decode cX7_begin 18 = .ok (.invokestatic 32, 3) := by decide +kernel
theorem dX7_begin_21 : decode cX7_begin 21 = .ok (.putfield 19, 3) := by decide +kernel
theorem dX7_begin_24 : decode cX7_begin 24 = .ok (.iconst 0, 1) := by decide +kernel
theorem dX7_begin_25 : decode cX7_begin 25 = .ok (.istore_n 3, 1) := by decide +kernel
theorem dX7_begin_26 : decode cX7_begin 26 = .ok (.iload_n 3, 1) := by decide +kernel
theorem dX7_begin_27 : decode cX7_begin 27 = .ok (.aload_n 0, 1) := by decide +kernel
theorem dX7_begin_28 : decode cX7_begin 28 = .ok (.getfield 22, 3) := by decide +kernel
theorem dX7_begin_31 : decode cX7_begin 31 = .ok (.arraylength, 1) := by decide +kernel
theorem dX7_begin_32 : decode cX7_begin 32 = .ok (.if_icmp .ge 16, 3) := by decide +kernel
theorem dX7_begin_35 : decode cX7_begin 35 = .ok (.aload_n 0, 1) := by decide +kernel
theorem dX7_begin_36 : decode cX7_begin 36 = .ok (.getfield 22, 3) := by decide +kernel
theorem dX7_begin_39 : decode cX7_begin 39 = .ok (.iload_n 3, 1) := by decide +kernel
theorem dX7_begin_40 : decode cX7_begin 40 = .ok (.lconst 0, 1) := by decide +kernel
theorem dX7_begin_41 : decode cX7_begin 41 = .ok (.lastore, 1) := by decide +kernel
theorem dX7_begin_42 : decode cX7_begin 42 = .ok (.iinc 3 1, 3) := by decide +kernel
theorem dX7_begin_45 : decode cX7_begin 45 = .ok (.goto (-19), 3) := by decide +kernel
theorem dX7_begin_48 : decode cX7_begin 48 = .ok (.return_, 1) := by decide +kernel
theorem dX7_at_0 : decode cX7_at 0 = .ok (.iload_n 1, 1) := by decide +kernel
theorem dX7_at_1 : decode cX7_at 1 = .ok (.ifCond .lt 18, 3) := by decide +kernel
theorem dX7_at_4 : decode cX7_at 4 = .ok (.iload_n 1, 1) := by decide +kernel
theorem dX7_at_5 : decode cX7_at 5 = .ok (.bipush 60, 2) := by decide +kernel
theorem dX7_at_7 : decode cX7_at 7 = .ok (.if_icmp .ge 12, 3) := by decide +kernel
theorem dX7_at_10 : decode cX7_at 10 = .ok (.aload_n 0, 1) := by decide +kernel
theorem dX7_at_11 : decode cX7_at 11 = .ok (.getfield 22, 3) := by decide +kernel
theorem dX7_at_14 : decode cX7_at 14 = .ok (.iload_n 1, 1) := by decide +kernel
theorem dX7_at_15 : decode cX7_at 15 = .ok (.laload, 1) := by decide +kernel
theorem dX7_at_16 : decode cX7_at 16 = .ok (.goto 4, 3) := by decide +kernel
theorem dX7_at_19 : decode cX7_at 19 = .ok (.lconst 0, 1) := by decide +kernel
theorem dX7_at_20 : decode cX7_at 20 = .ok (.lreturn, 1) := by decide +kernel
set_option maxRecDepth 20000 in
theorem ggX7_set_X7_cut : GoodIn wsX7_set wsX7_cut := goodIn_r _ [6, 7, 8, 9, 10, 11] (by decide +kernel) (by decide +kernel)
set_option maxRecDepth 20000 in
theorem gX7_set_X7_cut : GoodIn wsX7_set (wsV RX7 35 RX7 yX7_cut wsX7_cut) := goodIn_app (goodIn_of _ (by decide +kernel)) ggX7_set_X7_cut
theorem dX7_set_0 : decode cX7_set 0 = .ok (.iload_n 1, 1) := by decide +kernel
theorem dX7_set_1 : decode cX7_set 1 = .ok (.ifCond .lt 20, 3) := by decide +kernel
theorem dX7_set_4 : decode cX7_set 4 = .ok (.iload_n 1, 1) := by decide +kernel
theorem dX7_set_5 : decode cX7_set 5 = .ok (.bipush 60, 2) := by decide +kernel
theorem dX7_set_7 : decode cX7_set 7 = .ok (.if_icmp .ge 14, 3) := by decide +kernel
theorem dX7_set_10 : decode cX7_set 10 = .ok (.aload_n 0, 1) := by decide +kernel
theorem dX7_set_11 : decode cX7_set 11 = .ok (.getfield 22, 3) := by decide +kernel
theorem dX7_set_14 : decode cX7_set 14 = .ok (.iload_n 1, 1) := by decide +kernel
theorem dX7_set_15 : decode cX7_set 15 = .ok (.aload_n 0, 1) := by decide +kernel
theorem dX7_set_16 : decode cX7_set 16 = .ok (.lload_n 2, 1) := by decide +kernel
theorem dX7_set_17 : decode cX7_set 17 = .ok (.invokevirtual 35, 3) := by decide +kernel
theorem dX7_set_20 : decode cX7_set 20 = .ok (.lastore, 1) := by decide +kernel
theorem dX7_set_21 : decode cX7_set 21 = .ok (.return_, 1) := by decide +kernel
theorem dX7_cut_0 : decode cX7_cut 0 = .ok (.aload_n 0, 1) := by decide +kernel
theorem dX7_cut_1 : decode cX7_cut 1 = .ok (.getfield 15, 3) := by decide +kernel
