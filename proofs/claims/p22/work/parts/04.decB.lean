theorem dX3_init_0 : decode cX3_init 0 = .ok (.aload_n 0, 1) := by decide +kernel
theorem dX3_init_1 : decode cX3_init 1 = .ok (.invokespecial 3, 3) := by decide +kernel
theorem dX3_init_4 : decode cX3_init 4 = .ok (.aload_n 0, 1) := by decide +kernel
theorem dX3_init_5 : decode cX3_init 5 = .ok (.bipush 8, 2) := by decide +kernel
theorem dX3_init_7 : decode cX3_init 7 = .ok (.newarray .int, 2) := by decide +kernel
theorem dX3_init_9 : decode cX3_init 9 = .ok (.putfield 9, 3) := by decide +kernel
theorem dX3_init_12 : decode cX3_init 12 = .ok (.aload_n 0, 1) := by decide +kernel
theorem dX3_init_13 : decode cX3_init 13 = .ok (.bipush 8, 2) := by decide +kernel
theorem dX3_init_15 : decode cX3_init 15 = .ok (.newarray .int, 2) := by decide +kernel
theorem dX3_init_17 : decode cX3_init 17 = .ok (.putfield 15, 3) := by decide +kernel
theorem dX3_init_20 : decode cX3_init 20 = .ok (.aload_n 0, 1) := by decide +kernel
theorem dX3_init_21 : decode cX3_init 21 = .ok (.bipush 8, 2) := by decide +kernel
theorem dX3_init_23 : decode cX3_init 23 = .ok (.newarray .int, 2) := by decide +kernel
theorem dX3_init_25 : decode cX3_init 25 = .ok (.putfield 18, 3) := by decide +kernel
theorem dX3_init_28 : decode cX3_init 28 = .ok (.aload_n 0, 1) := by decide +kernel
theorem dX3_init_29 : decode cX3_init 29 = .ok (.bipush 8, 2) := by decide +kernel
theorem dX3_init_31 : decode cX3_init 31 = .ok (.newarray .int, 2) := by decide +kernel
theorem dX3_init_33 : decode cX3_init 33 = .ok (.putfield 21, 3) := by decide +kernel
theorem dX3_init_36 : decode cX3_init 36 = .ok (.aload_n 0, 1) := by decide +kernel
theorem dX3_init_37 : decode cX3_init 37 = .ok (.bipush 8, 2) := by decide +kernel
theorem dX3_init_39 : decode cX3_init 39 = .ok (.newarray .int, 2) := by decide +kernel
theorem dX3_init_41 : decode cX3_init 41 = .ok (.putfield 24, 3) := by decide +kernel
theorem dX3_init_44 : decode cX3_init 44 = .ok (.aload_n 0, 1) := by decide +kernel
theorem dX3_init_45 : decode cX3_init 45 = .ok (.bipush 8, 2) := by decide +kernel
theorem dX3_init_47 : decode cX3_init 47 = .ok (.newarray .int, 2) := by decide +kernel
theorem dX3_init_49 : decode cX3_init 49 = .ok (.putfield 27, 3) := by decide +kernel
theorem dX3_init_52 : decode cX3_init 52 = .ok (.aload_n 0, 1) := by decide +kernel
theorem dX3_init_53 : decode cX3_init 53 = .ok (.bipush 8, 2) := by decide +kernel
theorem dX3_init_55 : decode cX3_init 55 = .ok (.newarray .int, 2) := by decide +kernel
theorem dX3_init_57 : decode cX3_init 57 = .ok (.putfield 30, 3) := by decide +kernel
theorem dX3_init_60 : decode cX3_init 60 = .ok (.aload_n 0, 1) := by decide +kernel
theorem dX3_init_61 : decode cX3_init 61 = .ok (.bipush 8, 2) := by decide +kernel
theorem dX3_init_63 : decode cX3_init 63 = .ok (.newarray .int, 2) := by decide +kernel
theorem dX3_init_65 : decode cX3_init 65 = .ok (.putfield 33, 3) := by decide +kernel
theorem dX3_init_68 : decode cX3_init 68 = .ok (.aload_n 0, 1) := by decide +kernel
theorem dX3_init_69 : decode cX3_init 69 = .ok (.bipush 8, 2) := by decide +kernel
theorem dX3_init_71 : decode cX3_init 71 = .ok (.newarray .int, 2) := by decide +kernel
theorem dX3_init_73 : decode cX3_init 73 = .ok (.putfield 36, 3) := by decide +kernel
theorem dX3_init_76 : decode cX3_init 76 = .ok (.return_, 1) := by decide +kernel
set_option maxRecDepth 20000 in
theorem ggX3_find_X3_addNarrowest : GoodIn wsX3_find wsX3_addNarrowest := goodIn_r _ [7, 8, 9, 10, 11, 12, 13, 14, 15, 16, 17, 18, 19, 20, 21, 22, 23, 24, 25, 26, 27, 28, 29, 30, 31, 6, 32, 1, 33, 34, 35, 36, 37, 38, 39, 40, 41, 42, 43, 73, 74, 75, 76, 77, 78, 62, 63, 64, 65, 66, 67, 68, 69, 70, 71, 72] (by decide +kernel) (by decide +kernel)
set_option maxRecDepth 20000 in
theorem gX3_find_X3_addNarrowest : GoodIn wsX3_find (wsV RX3 43 RX3 yX3_addNarrowest wsX3_addNarrowest) := goodIn_app (goodIn_of _ (by decide +kernel)) ggX3_find_X3_addNarrowest
set_option maxRecDepth 20000 in
theorem ggX3_find_X3_sortByWidth : GoodIn wsX3_find wsX3_sortByWidth := goodIn_r _ [47, 1, 48, 49, 50, 51, 6, 52, 34, 33, 62, 63, 64, 65, 66, 67, 68, 69, 70, 71, 72] (by decide +kernel) (by decide +kernel)
set_option maxRecDepth 20000 in
theorem gX3_find_X3_sortByWidth : GoodIn wsX3_find (wsV RX3 47 RX3 yX3_sortByWidth wsX3_sortByWidth) := goodIn_app (goodIn_of _ (by decide +kernel)) ggX3_find_X3_sortByWidth
set_option maxRecDepth 20000 in
theorem ggX3_find_X3_makeGroups : GoodIn wsX3_find wsX3_makeGroups := goodIn_r _ [56, 57, 1, 48, 58, 59, 60, 61, 49, 50, 51, 6, 52, 34, 33, 62, 63, 64, 65, 66, 67, 68, 69, 70, 71, 72] (by decide +kernel) (by decide +kernel)
set_option maxRecDepth 20000 in
theorem gX3_find_X3_makeGroups : GoodIn wsX3_find (wsV RX3 55 RX3 yX3_makeGroups wsX3_makeGroups) := goodIn_app (goodIn_of _ (by decide +kernel)) ggX3_find_X3_makeGroups
theorem dX3_find_0 : decode cX3_find 0 = .ok (.aload_n 0, 1) := by decide +kernel
theorem dX3_find_1 : decode cX3_find 1 = .ok (.iconst 0, 1) := by decide +kernel
theorem dX3_find_2 : decode cX3_find 2 = .ok (.putfield 39, 3) := by decide +kernel
theorem dX3_find_5 : decode cX3_find 5 = .ok (.iconst 1, 1) := by decide +kernel
theorem dX3_find_6 : decode cX3_find 6 = .ok (.istore_n 2, 1) := by decide +kernel
theorem dX3_find_7 : decode cX3_find 7 = .ok (.iconst 0, 1) := by decide +kernel
theorem dX3_find_8 : decode cX3_find 8 = .ok (.istore_n 3, 1) := by decide +kernel
theorem dX3_find_9 : decode cX3_find 9 = .ok (.iload_n 2, 1) := by decide +kernel
theorem dX3_find_10 : decode cX3_find 10 = .ok (.ifCond .eq 21, 3) := by decide +kernel
theorem dX3_find_13 : decode cX3_find 13 = .ok (.iload_n 3, 1) := by decide +kernel
theorem dX3_find_14 : decode cX3_find 14 = .ok (.bipush 8, 2) := by decide +kernel
theorem dX3_find_16 : decode cX3_find 16 = .ok (.if_icmp .ge 15, 3) := by decide +kernel
theorem dX3_find_19 : decode cX3_find 19 = .ok (.aload_n 0, 1) := by decide +kernel
theorem dX3_find_20 : decode cX3_find 20 = .ok (.aload_n 1, 1) := by decide +kernel
theorem dX3_find_21 : decode cX3_find 21 = .ok (.invokevirtual 43, 3) := by decide +kernel
theorem dX3_find_24 : decode cX3_find 24 = .ok (.istore_n 2, 1) := by decide +kernel
theorem dX3_find_25 : decode cX3_find 25 = .ok (.iinc 3 1, 3) := by decide +kernel
theorem dX3_find_28 : decode cX3_find 28 = .ok (.goto (-19), 3) := by decide +kernel
theorem dX3_find_31 : decode cX3_find 31 = .ok (.aload_n 0, 1) := by decide +kernel
theorem dX3_find_32 : decode cX3_find 32 = .ok (.invokevirtual 47, 3) := by decide +kernel
theorem dX3_find_35 : decode cX3_find 35 = .ok (.aload_n 0, 1) := by decide +kernel
theorem dX3_find_36 : decode cX3_find 36 = .ok (.aload_n 1, 1) := by decide +kernel
theorem dX3_find_37 : decode cX3_find 37 = .ok (.getfield 50, 3) := by decide +kernel
theorem dX3_find_40 : decode cX3_find 40 = .ok (.iconst 0, 1) := by decide +kernel
theorem dX3_find_41 : decode cX3_find 41 = .ok (.iaload, 1) := by decide +kernel
theorem dX3_find_42 : decode cX3_find 42 = .ok (.invokevirtual 55, 3) := by decide +kernel
theorem dX3_find_45 : decode cX3_find 45 = .ok (.return_, 1) := by decide +kernel
theorem dX3_withEdge_0 : decode cX3_withEdge 0 = .ok (.iconst 0, 1) := by decide +kernel
theorem dX3_withEdge_1 : decode cX3_withEdge 1 = .ok (.istore_n 2, 1) := by decide +kernel
theorem dX3_withEdge_2 : decode cX3_withEdge 2 = .ok (.iload_n 2, 1) := by decide +kernel
theorem dX3_withEdge_3 : decode cX3_withEdge 3 = .ok (.aload_n 0, 1) := by decide +kernel
theorem dX3_withEdge_4 : decode cX3_withEdge 4 = .ok (.getfield 39, 3) := by decide +kernel
theorem dX3_withEdge_7 : decode cX3_withEdge 7 = .ok (.if_icmp .ge 31, 3) := by decide +kernel
theorem dX3_withEdge_10 : decode cX3_withEdge 10 = .ok (.aload_n 0, 1) := by decide +kernel
theorem dX3_withEdge_11 : decode cX3_withEdge 11 = .ok (.getfield 18, 3) := by decide +kernel
theorem dX3_withEdge_14 : decode cX3_withEdge 14 = .ok (.iload_n 2, 1) := by decide +kernel
theorem dX3_withEdge_15 : decode cX3_withEdge 15 = .ok (.iaload, 1) := by decide +kernel
theorem dX3_withEdge_16 : decode cX3_withEdge 16 = .ok (.iload_n 1, 1) := by decide +kernel
theorem dX3_withEdge_17 : decode cX3_withEdge 17 = .ok (.if_icmp .eq 13, 3) := by decide +kernel
theorem dX3_withEdge_20 : decode cX3_withEdge 20 = .ok (.aload_n 0, 1) := by decide +kernel
theorem dX3_withEdge_21 : decode cX3_withEdge 21 = .ok (.getfield 21, 3) := by decide +kernel
theorem dX3_withEdge_24 : decode cX3_withEdge 24 = .ok (.iload_n 2, 1) := by decide +kernel
theorem dX3_withEdge_25 : decode cX3_withEdge 25 = .ok (.iaload, 1) := by decide +kernel
theorem dX3_withEdge_26 : decode cX3_withEdge 26 = .ok (.iload_n 1, 1) := by decide +kernel
theorem dX3_withEdge_27 : decode cX3_withEdge 27 = .ok (.if_icmp .ne 5, 3) := by decide +kernel
theorem dX3_withEdge_30 : decode cX3_withEdge 30 = .ok (.iload_n 2, 1) := by decide +kernel
theorem dX3_withEdge_31 : decode cX3_withEdge 31 = .ok (.ireturn, 1) := by decide +kernel
theorem dX3_withEdge_32 : decode cX3_withEdge 32 = .ok (.iinc 2 1, 3) := by decide +kernel
theorem dX3_withEdge_35 : decode cX3_withEdge 35 = .ok (.goto (-33), 3) := by decide +kernel
theorem dX3_withEdge_38 : decode cX3_withEdge 38 = .ok (.bipush (-6), 2) := by decide +kernel
theorem dX3_withEdge_40 : decode cX3_withEdge 40 = .ok (.ireturn, 1) := by decide +kernel
theorem dX3_standard_0 : decode cX3_standard 0 = .ok (.aload_n 0, 1) := by decide +kernel
theorem dX3_standard_1 : decode cX3_standard 1 = .ok (.getfield 27, 3) := by decide +kernel
theorem dX3_standard_4 : decode cX3_standard 4 = .ok (.iload_n 1, 1) := by decide +kernel
theorem dX3_standard_5 : decode cX3_standard 5 = .ok (.iaload, 1) := by decide +kernel
theorem dX3_standard_6 : decode cX3_standard 6 = .ok (.ifCond .le 19, 3) := by decide +kernel
theorem dX3_standard_9 : decode cX3_standard 9 = .ok (.aload_n 0, 1) := by decide +kernel
theorem dX3_standard_10 : decode cX3_standard 10 = .ok (.getfield 33, 3) := by decide +kernel
theorem dX3_standard_13 : decode cX3_standard 13 = .ok (.iload_n 1, 1) := by decide +kernel
theorem dX3_standard_14 : decode cX3_standard 14 = .ok (.iaload, 1) := by decide +kernel
theorem dX3_standard_15 : decode cX3_standard 15 = .ok (.aload_n 0, 1) := by decide +kernel
theorem dX3_standard_16 : decode cX3_standard 16 = .ok (.getfield 27, 3) := by decide +kernel
theorem dX3_standard_19 : decode cX3_standard 19 = .ok (.iload_n 1, 1) := by decide +kernel
theorem dX3_standard_20 : decode cX3_standard 20 = .ok (.iaload, 1) := by decide +kernel
theorem dX3_standard_21 : decode cX3_standard 21 = .ok (.idiv, 1) := by decide +kernel
theorem dX3_standard_22 : decode cX3_standard 22 = .ok (.goto 4, 3) := by decide +kernel
theorem dX3_standard_25 : decode cX3_standard 25 = .ok (.iconst 0, 1) := by decide +kernel
theorem dX3_standard_26 : decode cX3_standard 26 = .ok (.ireturn, 1) := by decide +kernel
set_option maxRecDepth 20000 in
theorem ggX3_dotsOfGroup_X3_standard : GoodIn wsX3_dotsOfGroup wsX3_standard := goodIn_r _ [9, 10, 11, 12, 13, 14, 15, 16, 17, 18, 19, 20, 21, 22] (by decide +kernel) (by decide +kernel)
set_option maxRecDepth 20000 in
theorem gX3_dotsOfGroup_X3_standard : GoodIn wsX3_dotsOfGroup (wsV RX3 59 RX3 yX3_standard wsX3_standard) := goodIn_app (goodIn_of _ (by decide +kernel)) ggX3_dotsOfGroup_X3_standard
theorem dX3_dotsOfGroup_0 : decode cX3_dotsOfGroup 0 = .ok (.aload_n 0, 1) := by decide +kernel
theorem dX3_dotsOfGroup_1 : decode cX3_dotsOfGroup 1 = .ok (.iload_n 1, 1) := by decide +kernel
theorem dX3_dotsOfGroup_2 : decode cX3_dotsOfGroup 2 = .ok (.invokevirtual 59, 3) := by decide +kernel
theorem dX3_dotsOfGroup_5 : decode cX3_dotsOfGroup 5 = .ok (.iload_n 2, 1) := by decide +kernel
theorem dX3_dotsOfGroup_6 : decode cX3_dotsOfGroup 6 = .ok (.imul, 1) := by decide +kernel
theorem dX3_dotsOfGroup_7 : decode cX3_dotsOfGroup 7 = .ok (.sipush 500, 3) := by decide +kernel
theorem dX3_dotsOfGroup_10 : decode cX3_dotsOfGroup 10 = .ok (.iadd, 1) := by decide +kernel
theorem dX3_dotsOfGroup_11 : decode cX3_dotsOfGroup 11 = .ok (.sipush 1000, 3) := by decide +kernel
theorem dX3_dotsOfGroup_14 : decode cX3_dotsOfGroup 14 = .ok (.idiv, 1) := by decide +kernel
theorem dX3_dotsOfGroup_15 : decode cX3_dotsOfGroup 15 = .ok (.istore 4, 2) := by decide +kernel
theorem dX3_dotsOfGroup_17 : decode cX3_dotsOfGroup 17 = .ok (.iconst 1, 1) := by decide +kernel
theorem dX3_dotsOfGroup_18 : decode cX3_dotsOfGroup 18 = .ok (.iload 4, 2) := by decide +kernel
theorem dX3_dotsOfGroup_20 : decode cX3_dotsOfGroup 20 = .ok (.invokestatic 63, 3) := by decide +kernel
theorem dX3_dotsOfGroup_23 : decode cX3_dotsOfGroup 23 = .ok (.iload_n 3, 1) := by decide +kernel
theorem dX3_dotsOfGroup_24 : decode cX3_dotsOfGroup 24 = .ok (.iadd, 1) := by decide +kernel
theorem dX3_dotsOfGroup_25 : decode cX3_dotsOfGroup 25 = .ok (.ireturn, 1) := by decide +kernel
set_option maxRecDepth 20000 in
theorem ggX3_dotsOfStem_X3_dotsOfGroup : GoodIn wsX3_dotsOfStem wsX3_dotsOfGroup := goodIn_r _ [6, 7, 8, 9, 10, 11, 12, 13, 5, 14, 15, 16, 17, 18, 19, 20, 21, 22, 23, 24, 25, 26, 27] (by decide +kernel) (by decide +kernel)
set_option maxRecDepth 20000 in
theorem gX3_dotsOfStem_X3_dotsOfGroup : GoodIn wsX3_dotsOfStem (wsV RX3 69 RX3 yX3_dotsOfGroup wsX3_dotsOfGroup) := goodIn_app (goodIn_of _ (by decide +kernel)) ggX3_dotsOfStem_X3_dotsOfGroup
theorem dX3_dotsOfStem_0 : decode cX3_dotsOfStem 0 = .ok (.aload_n 0, 1) := by decide +kernel
theorem dX3_dotsOfStem_1 : decode cX3_dotsOfStem 1 = .ok (.aload_n 0, 1) := by decide +kernel
theorem dX3_dotsOfStem_2 : decode cX3_dotsOfStem 2 = .ok (.getfield 24, 3) := by decide +kernel
theorem dX3_dotsOfStem_5 : decode cX3_dotsOfStem 5 = .ok (.iload_n 1, 1) := by decide +kernel
theorem dX3_dotsOfStem_6 : decode cX3_dotsOfStem 6 = .ok (.iaload, 1) := by decide +kernel
theorem dX3_dotsOfStem_7 : decode cX3_dotsOfStem 7 = .ok (.iload_n 2, 1) := by decide +kernel
theorem dX3_dotsOfStem_8 : decode cX3_dotsOfStem 8 = .ok (.iload_n 3, 1) := by decide +kernel
theorem dX3_dotsOfStem_9 : decode cX3_dotsOfStem 9 = .ok (.invokevirtual 69, 3) := by decide +kernel
theorem dX3_dotsOfStem_12 : decode cX3_dotsOfStem 12 = .ok (.ireturn, 1) := by decide +kernel
theorem dX3_width_0 : decode cX3_width 0 = .ok (.aload_n 0, 1) := by decide +kernel
theorem dX3_width_1 : decode cX3_width 1 = .ok (.getfield 15, 3) := by decide +kernel
theorem dX3_width_4 : decode cX3_width 4 = .ok (.iload_n 1, 1) := by decide +kernel
theorem dX3_width_5 : decode cX3_width 5 = .ok (.iaload, 1) := by decide +kernel
theorem dX3_width_6 : decode cX3_width 6 = .ok (.aload_n 0, 1) := by decide +kernel
theorem dX3_width_7 : decode cX3_width 7 = .ok (.getfield 9, 3) := by decide +kernel
theorem dX3_width_10 : decode cX3_width 10 = .ok (.iload_n 1, 1) := by decide +kernel
theorem dX3_width_11 : decode cX3_width 11 = .ok (.iaload, 1) := by decide +kernel
theorem dX3_width_12 : decode cX3_width 12 = .ok (.isub, 1) := by decide +kernel
theorem dX3_width_13 : decode cX3_width 13 = .ok (.ireturn, 1) := by decide +kernel
set_option maxRecDepth 20000 in
theorem ggX3_addNarrowest_X1_canBeStem : GoodIn wsX3_addNarrowest wsX1_canBeStem := goodIn_r _ [7, 8, 9, 10, 11, 12, 13, 14, 15, 16, 17, 18, 19, 20, 21, 39, 40, 41, 42, 43, 44] (by decide +kernel) (by decide +kernel)
set_option maxRecDepth 20000 in
theorem gX3_addNarrowest_X1_canBeStem : GoodIn wsX3_addNarrowest (wsV RX3 76 RX1 yX1_canBeStem wsX1_canBeStem) := goodIn_app (goodIn_of _ (by decide +kernel)) ggX3_addNarrowest_X1_canBeStem
set_option maxRecDepth 20000 in
theorem ggX3_addNarrowest_X3_isFree : GoodIn wsX3_addNarrowest wsX3_isFree := goodIn_r _ [26, 27, 28, 29, 45, 46, 47, 48, 49, 50, 51, 52, 53, 54, 55] (by decide +kernel) (by decide +kernel)
set_option maxRecDepth 20000 in
theorem gX3_addNarrowest_X3_isFree : GoodIn wsX3_addNarrowest (wsV RX3 83 RX3 yX3_isFree wsX3_isFree) := goodIn_app (goodIn_of _ (by decide +kernel)) ggX3_addNarrowest_X3_isFree
set_option maxRecDepth 20000 in
theorem ggX3_addNarrowest_X3_isSooner : GoodIn wsX3_addNarrowest wsX3_isSooner := goodIn_r _ [32] (by decide +kernel) (by decide +kernel)
set_option maxRecDepth 20000 in
theorem gX3_addNarrowest_X3_isSooner : GoodIn wsX3_addNarrowest (va_wsS RX3 86 yX3_isSooner wsX3_isSooner) := goodIn_app (goodIn_of _ (by decide +kernel)) ggX3_addNarrowest_X3_isSooner
set_option maxRecDepth 20000 in
theorem ggX3_addNarrowest_X3_insert : GoodIn wsX3_addNarrowest wsX3_insert := goodIn_r _ [36, 27, 28, 29, 37, 38, 45, 46, 47, 48, 49, 50, 51, 52, 53, 54, 55] (by decide +kernel) (by decide +kernel)
set_option maxRecDepth 20000 in
theorem gX3_addNarrowest_X3_insert : GoodIn wsX3_addNarrowest (wsV RX3 90 RX3 yX3_insert wsX3_insert) := goodIn_app (goodIn_of _ (by decide +kernel)) ggX3_addNarrowest_X3_insert
theorem dX3_addNarrowest_0 : decode cX3_addNarrowest 0 = .ok (.bipush (-6), 2) := by decide +kernel
theorem dX3_addNarrowest_2 : decode cX3_addNarrowest 2 = .ok (.istore_n 2, 1) := by decide +kernel
theorem dX3_addNarrowest_3 : decode cX3_addNarrowest 3 = .ok (.bipush (-6), 2) := by decide +kernel
theorem dX3_addNarrowest_5 : decode cX3_addNarrowest 5 = .ok (.istore_n 3, 1) := by decide +kernel
theorem dX3_addNarrowest_6 : decode cX3_addNarrowest 6 = .ok (.iconst 0, 1) := by decide +kernel
theorem dX3_addNarrowest_7 : decode cX3_addNarrowest 7 = .ok (.istore 4, 2) := by decide +kernel
theorem dX3_addNarrowest_9 : decode cX3_addNarrowest 9 = .ok (.iload 4, 2) := by decide +kernel
theorem dX3_addNarrowest_11 : decode cX3_addNarrowest 11 = .ok (.aload_n 1, 1) := by decide +kernel
theorem dX3_addNarrowest_12 : decode cX3_addNarrowest 12 = .ok (.getfield 73, 3) := by decide +kernel
theorem dX3_addNarrowest_15 : decode cX3_addNarrowest 15 = .ok (.if_icmp .ge 106, 3) := by decide +kernel
theorem dX3_addNarrowest_18 : decode cX3_addNarrowest 18 = .ok (.iconst 0, 1) := by decide +kernel
theorem dX3_addNarrowest_19 : decode cX3_addNarrowest 19 = .ok (.istore 5, 2) := by decide +kernel
theorem dX3_addNarrowest_21 : decode cX3_addNarrowest 21 = .ok (.iload 5, 2) := by decide +kernel
theorem dX3_addNarrowest_23 : decode cX3_addNarrowest 23 = .ok (.aload_n 1, 1) := by decide +kernel
theorem dX3_addNarrowest_24 : decode cX3_addNarrowest 24 = .ok (.getfield 73, 3) := by decide +kernel
theorem dX3_addNarrowest_27 : decode cX3_addNarrowest 27 = .ok (.if_icmp .ge 88, 3) := by decide +kernel
theorem dX3_addNarrowest_30 : decode cX3_addNarrowest 30 = .ok (.aload_n 1, 1) := by decide +kernel
theorem dX3_addNarrowest_31 : decode cX3_addNarrowest 31 = .ok (.iload 4, 2) := by decide +kernel
theorem dX3_addNarrowest_33 : decode cX3_addNarrowest 33 = .ok (.iload 5, 2) := by decide +kernel
theorem dX3_addNarrowest_35 : decode cX3_addNarrowest 35 = .ok (.invokevirtual 76, 3) := by decide +kernel
theorem dX3_addNarrowest_38 : decode cX3_addNarrowest 38 = .ok (.ifCond .eq 71, 3) := by decide +kernel
theorem dX3_addNarrowest_41 : decode cX3_addNarrowest 41 = .ok (.aload_n 0, 1) := by decide +kernel
theorem dX3_addNarrowest_42 : decode cX3_addNarrowest 42 = .ok (.aload_n 1, 1) := by decide +kernel
theorem dX3_addNarrowest_43 : decode cX3_addNarrowest 43 = .ok (.getfield 80, 3) := by decide +kernel
theorem dX3_addNarrowest_46 : decode cX3_addNarrowest 46 = .ok (.iload 4, 2) := by decide +kernel
theorem dX3_addNarrowest_48 : decode cX3_addNarrowest 48 = .ok (.iaload, 1) := by decide +kernel
theorem dX3_addNarrowest_49 : decode cX3_addNarrowest 49 = .ok (.aload_n 1, 1) := by decide +kernel
theorem dX3_addNarrowest_50 : decode cX3_addNarrowest 50 = .ok (.getfield 80, 3) := by decide +kernel
theorem dX3_addNarrowest_53 : decode cX3_addNarrowest 53 = .ok (.iload 5, 2) := by decide +kernel
theorem dX3_addNarrowest_55 : decode cX3_addNarrowest 55 = .ok (.iaload, 1) := by decide +kernel
theorem dX3_addNarrowest_56 : decode cX3_addNarrowest 56 = .ok (.invokevirtual 83, 3) := by decide +kernel
theorem dX3_addNarrowest_59 : decode cX3_addNarrowest 59 = .ok (.ifCond .ne 6, 3) := by decide +kernel
theorem dX3_addNarrowest_62 : decode cX3_addNarrowest 62 = .ok (.goto 47, 3) := by decide +kernel
theorem dX3_addNarrowest_65 : decode cX3_addNarrowest 65 = .ok (.iload_n 2, 1) := by decide +kernel
theorem dX3_addNarrowest_66 : decode cX3_addNarrowest 66 = .ok (.bipush (-6), 2) := by decide +kernel
theorem dX3_addNarrowest_68 : decode cX3_addNarrowest 68 = .ok (.if_icmp .eq 35, 3) := by decide +kernel
theorem dX3_addNarrowest_71 : decode cX3_addNarrowest 71 = .ok (.aload_n 1, 1) := by decide +kernel
theorem dX3_addNarrowest_72 : decode cX3_addNarrowest 72 = .ok (.getfield 80, 3) := by decide +kernel
theorem dX3_addNarrowest_75 : decode cX3_addNarrowest 75 = .ok (.iload 4, 2) := by decide +kernel
theorem dX3_addNarrowest_77 : decode cX3_addNarrowest 77 = .ok (.iaload, 1) := by decide +kernel
theorem dX3_addNarrowest_78 : decode cX3_addNarrowest 78 = .ok (.aload_n 1, 1) := by decide +kernel
theorem dX3_addNarrowest_79 : decode cX3_addNarrowest 79 = .ok (.getfield 80, 3) := by decide +kernel
theorem dX3_addNarrowest_82 : decode cX3_addNarrowest 82 = .ok (.iload 5, 2) := by decide +kernel
theorem dX3_addNarrowest_84 : decode cX3_addNarrowest 84 = .ok (.iaload, 1) := by decide +kernel
theorem dX3_addNarrowest_85 : decode cX3_addNarrowest 85 = .ok (.aload_n 1, 1) := by decide +kernel
theorem dX3_addNarrowest_86 : decode cX3_addNarrowest 86 = .ok (.getfield 80, 3) := by decide +kernel
theorem dX3_addNarrowest_89 : decode cX3_addNarrowest 89 = .ok (.iload_n 2, 1) := by decide +kernel
theorem dX3_addNarrowest_90 : decode cX3_addNarrowest 90 = .ok (.iaload, 1) := by decide +kernel
theorem dX3_addNarrowest_91 : decode cX3_addNarrowest 91 = .ok (.aload_n 1, 1) := by decide +kernel
theorem dX3_addNarrowest_92 : decode cX3_addNarrowest 92 = .ok (.getfield 80, 3) := by decide +kernel
theorem dX3_addNarrowest_95 : decode cX3_addNarrowest 95 = .ok (.iload_n 3, 1) := by decide +kernel
theorem dX3_addNarrowest_96 : decode cX3_addNarrowest 96 = .ok (.iaload, 1) := by decide +kernel
theorem dX3_addNarrowest_97 : decode cX3_addNarrowest 97 = .ok (.invokestatic 86, 3) := by decide +kernel
theorem dX3_addNarrowest_100 : decode cX3_addNarrowest 100 = .ok (.ifCond .eq 9, 3) := by decide +kernel
theorem dX3_addNarrowest_103 : decode cX3_addNarrowest 103 = .ok (.iload 4, 2) := by decide +kernel
theorem dX3_addNarrowest_105 : decode cX3_addNarrowest 105 = .ok (.istore_n 2, 1) := by decide +kernel
theorem dX3_addNarrowest_106 : decode cX3_addNarrowest 106 = .ok (.iload 5, 2) := by decide +kernel
theorem dX3_addNarrowest_108 : decode cX3_addNarrowest 108 = .ok (.istore_n 3, 1) := by decide +kernel
theorem dX3_addNarrowest_109 : decode cX3_addNarrowest 109 = .ok (.iinc 5 1, 3) := by decide +kernel
theorem dX3_addNarrowest_112 : decode cX3_addNarrowest 112 = .ok (.goto (-91), 3) := by decide +kernel
theorem dX3_addNarrowest_115 : decode cX3_addNarrowest 115 = .ok (.iinc 4 1, 3) := by decide +kernel
theorem dX3_addNarrowest_118 : decode cX3_addNarrowest 118 = .ok (.goto (-109), 3) := by decide +kernel
theorem dX3_addNarrowest_121 : decode cX3_addNarrowest 121 = .ok (.iload_n 2, 1) := by decide +kernel
theorem dX3_addNarrowest_122 : decode cX3_addNarrowest 122 = .ok (.bipush (-6), 2) := by decide +kernel
theorem dX3_addNarrowest_124 : decode cX3_addNarrowest 124 = .ok (.if_icmp .ne 5, 3) := by decide +kernel
theorem dX3_addNarrowest_127 : decode cX3_addNarrowest 127 = .ok (.iconst 0, 1) := by decide +kernel
theorem dX3_addNarrowest_128 : decode cX3_addNarrowest 128 = .ok (.ireturn, 1) := by decide +kernel
theorem dX3_addNarrowest_129 : decode cX3_addNarrowest 129 = .ok (.aload_n 0, 1) := by decide +kernel
theorem dX3_addNarrowest_130 : decode cX3_addNarrowest 130 = .ok (.iload_n 2, 1) := by decide +kernel
theorem dX3_addNarrowest_131 : decode cX3_addNarrowest 131 = .ok (.iload_n 3, 1) := by decide +kernel
theorem dX3_addNarrowest_132 : decode cX3_addNarrowest 132 = .ok (.aload_n 1, 1) := by decide +kernel
theorem dX3_addNarrowest_133 : decode cX3_addNarrowest 133 = .ok (.getfield 80, 3) := by decide +kernel
theorem dX3_addNarrowest_136 : decode cX3_addNarrowest 136 = .ok (.iload_n 2, 1) := by decide +kernel
theorem dX3_addNarrowest_137 : decode cX3_addNarrowest 137 = .ok (.iaload, 1) := by decide +kernel
theorem dX3_addNarrowest_138 : decode cX3_addNarrowest 138 = .ok (.aload_n 1, 1) := by decide +kernel
theorem dX3_addNarrowest_139 : decode cX3_addNarrowest 139 = .ok (.getfield 80, 3) := by decide +kernel
theorem dX3_addNarrowest_142 : decode cX3_addNarrowest 142 = .ok (.iload_n 3, 1) := by decide +kernel
theorem dX3_addNarrowest_143 : decode cX3_addNarrowest 143 = .ok (.iaload, 1) := by decide +kernel
theorem dX3_addNarrowest_144 : decode cX3_addNarrowest 144 = .ok (.invokevirtual 90, 3) := by decide +kernel
theorem dX3_addNarrowest_147 : decode cX3_addNarrowest 147 = .ok (.iconst 1, 1) := by decide +kernel
theorem dX3_addNarrowest_148 : decode cX3_addNarrowest 148 = .ok (.ireturn, 1) := by decide +kernel
theorem dX3_isFree_0 : decode cX3_isFree 0 = .ok (.iconst 0, 1) := by decide +kernel
theorem dX3_isFree_1 : decode cX3_isFree 1 = .ok (.istore_n 3, 1) := by decide +kernel
theorem dX3_isFree_2 : decode cX3_isFree 2 = .ok (.iload_n 3, 1) := by decide +kernel
theorem dX3_isFree_3 : decode cX3_isFree 3 = .ok (.aload_n 0, 1) := by decide +kernel
theorem dX3_isFree_4 : decode cX3_isFree 4 = .ok (.getfield 39, 3) := by decide +kernel
theorem dX3_isFree_7 : decode cX3_isFree 7 = .ok (.if_icmp .ge 31, 3) := by decide +kernel
theorem dX3_isFree_10 : decode cX3_isFree 10 = .ok (.iload_n 2, 1) := by decide +kernel
theorem dX3_isFree_11 : decode cX3_isFree 11 = .ok (.aload_n 0, 1) := by decide +kernel
theorem dX3_isFree_12 : decode cX3_isFree 12 = .ok (.getfield 9, 3) := by decide +kernel
theorem dX3_isFree_15 : decode cX3_isFree 15 = .ok (.iload_n 3, 1) := by decide +kernel
theorem dX3_isFree_16 : decode cX3_isFree 16 = .ok (.iaload, 1) := by decide +kernel
theorem dX3_isFree_17 : decode cX3_isFree 17 = .ok (.if_icmp .lt 15, 3) := by decide +kernel
theorem dX3_isFree_20 : decode cX3_isFree 20 = .ok (.aload_n 0, 1) := by decide +kernel
theorem dX3_isFree_21 : decode cX3_isFree 21 = .ok (.getfield 15, 3) := by decide +kernel
theorem dX3_isFree_24 : decode cX3_isFree 24 = .ok (.iload_n 3, 1) := by decide +kernel
theorem dX3_isFree_25 : decode cX3_isFree 25 = .ok (.iaload, 1) := by decide +kernel
theorem dX3_isFree_26 : decode cX3_isFree 26 = .ok (.iload_n 1, 1) := by decide +kernel
theorem dX3_isFree_27 : decode cX3_isFree 27 = .ok (.if_icmp .lt 5, 3) := by decide +kernel
theorem dX3_isFree_30 : decode cX3_isFree 30 = .ok (.iconst 0, 1) := by decide +kernel
theorem dX3_isFree_31 : decode cX3_isFree 31 = .ok (.ireturn, 1) := by decide +kernel
theorem dX3_isFree_32 : decode cX3_isFree 32 = .ok (.iinc 3 1, 3) := by decide +kernel
theorem dX3_isFree_35 : decode cX3_isFree 35 = .ok (.goto (-33), 3) := by decide +kernel
theorem dX3_isFree_38 : decode cX3_isFree 38 = .ok (.iconst 1, 1) := by decide +kernel
theorem dX3_isFree_39 : decode cX3_isFree 39 = .ok (.ireturn, 1) := by decide +kernel
theorem dX3_isSooner_0 : decode cX3_isSooner 0 = .ok (.iload_n 1, 1) := by decide +kernel
theorem dX3_isSooner_1 : decode cX3_isSooner 1 = .ok (.iload_n 0, 1) := by decide +kernel
theorem dX3_isSooner_2 : decode cX3_isSooner 2 = .ok (.isub, 1) := by decide +kernel
theorem dX3_isSooner_3 : decode cX3_isSooner 3 = .ok (.istore 4, 2) := by decide +kernel
theorem dX3_isSooner_5 : decode cX3_isSooner 5 = .ok (.iload_n 3, 1) := by decide +kernel
theorem dX3_isSooner_6 : decode cX3_isSooner 6 = .ok (.iload_n 2, 1) := by decide +kernel
theorem dX3_isSooner_7 : decode cX3_isSooner 7 = .ok (.isub, 1) := by decide +kernel
theorem dX3_isSooner_8 : decode cX3_isSooner 8 = .ok (.istore 5, 2) := by decide +kernel
theorem dX3_isSooner_10 : decode cX3_isSooner 10 = .ok (.iload 4, 2) := by decide +kernel
theorem dX3_isSooner_12 : decode cX3_isSooner 12 = .ok (.iload 5, 2) := by decide +kernel
theorem dX3_isSooner_14 : decode cX3_isSooner 14 = .ok (.if_icmp .lt 15, 3) := by decide +kernel
theorem dX3_isSooner_17 : decode cX3_isSooner 17 = .ok (.iload 4, 2) := by decide +kernel
theorem dX3_isSooner_19 : decode cX3_isSooner 19 = .ok (.iload 5, 2) := by decide +kernel
theorem dX3_isSooner_21 : decode cX3_isSooner 21 = .ok (.if_icmp .ne 12, 3) := by decide +kernel
theorem dX3_isSooner_24 : decode cX3_isSooner 24 = .ok (.iload_n 0, 1) := by decide +kernel
theorem dX3_isSooner_25 : decode cX3_isSooner 25 = .ok (.iload_n 2, 1) := by decide +kernel
theorem dX3_isSooner_26 : decode cX3_isSooner 26 = .ok (.if_icmp .ge 7, 3) := by decide +kernel
theorem dX3_isSooner_29 : decode cX3_isSooner 29 = .ok (.iconst 1, 1) := by decide +kernel
theorem dX3_isSooner_30 : decode cX3_isSooner 30 = .ok (.goto 4, 3) := by decide +kernel
theorem dX3_isSooner_33 : decode cX3_isSooner 33 = .ok (.iconst 0, 1) := by decide +kernel
theorem dX3_isSooner_34 : decode cX3_isSooner 34 = .ok (.ireturn, 1) := by decide +kernel
theorem dX3_insert_0 : decode cX3_insert 0 = .ok (.aload_n 0, 1) := by decide +kernel
theorem dX3_insert_1 : decode cX3_insert 1 = .ok (.getfield 39, 3) := by decide +kernel
theorem dX3_insert_4 : decode cX3_insert 4 = .ok (.bipush 8, 2) := by decide +kernel
theorem dX3_insert_6 : decode cX3_insert 6 = .ok (.if_icmp .lt 4, 3) := by decide +kernel
theorem dX3_insert_9 : decode cX3_insert 9 = .ok (.return_, 1) := by decide +kernel
theorem dX3_insert_10 : decode cX3_insert 10 = .ok (.aload_n 0, 1) := by decide +kernel
theorem dX3_insert_11 : decode cX3_insert 11 = .ok (.getfield 39, 3) := by decide +kernel
theorem dX3_insert_14 : decode cX3_insert 14 = .ok (.istore 5, 2) := by decide +kernel
theorem dX3_insert_16 : decode cX3_insert 16 = .ok (.iload 5, 2) := by decide +kernel
theorem dX3_insert_18 : decode cX3_insert 18 = .ok (.ifCond .le 86, 3) := by decide +kernel
theorem dX3_insert_21 : decode cX3_insert 21 = .ok (.aload_n 0, 1) := by decide +kernel
theorem dX3_insert_22 : decode cX3_insert 22 = .ok (.getfield 9, 3) := by decide +kernel
theorem dX3_insert_25 : decode cX3_insert 25 = .ok (.iload 5, 2) := by decide +kernel
theorem dX3_insert_27 : decode cX3_insert 27 = .ok (.iconst 1, 1) := by decide +kernel
theorem dX3_insert_28 : decode cX3_insert 28 = .ok (.isub, 1) := by decide +kernel
theorem dX3_insert_29 : decode cX3_insert 29 = .ok (.iaload, 1) := by decide +kernel
theorem dX3_insert_30 : decode cX3_insert 30 = .ok (.iload_n 3, 1) := by decide +kernel
theorem dX3_insert_31 : decode cX3_insert 31 = .ok (.if_icmp .le 73, 3) := by decide +kernel
theorem dX3_insert_34 : decode cX3_insert 34 = .ok (.aload_n 0, 1) := by decide +kernel
theorem dX3_insert_35 : decode cX3_insert 35 = .ok (.getfield 9, 3) := by decide +kernel
theorem dX3_insert_38 : decode cX3_insert 38 = .ok (.iload 5, 2) := by decide +kernel
theorem dX3_insert_40 : decode cX3_insert 40 = .ok (.aload_n 0, 1) := by decide +kernel
theorem dX3_insert_41 : decode cX3_insert 41 = .ok (.getfield 9, 3) := by decide +kernel
theorem dX3_insert_44 : decode cX3_insert 44 = .ok (.iload 5, 2) := by decide +kernel
theorem dX3_insert_46 : decode cX3_insert 46 = .ok (.iconst 1, 1) := by decide +kernel
theorem dX3_insert_47 : decode cX3_insert 47 = .ok (.isub, 1) := by decide +kernel
theorem dX3_insert_48 : decode cX3_insert 48 = .ok (.iaload, 1) := by decide +kernel
theorem dX3_insert_49 : decode cX3_insert 49 = .ok (.iastore, 1) := by decide +kernel
theorem dX3_insert_50 : decode cX3_insert 50 = .ok (.aload_n 0, 1) := by decide +kernel
theorem dX3_insert_51 : decode cX3_insert 51 = .ok (.getfield 15, 3) := by decide +kernel
theorem dX3_insert_54 : decode cX3_insert 54 = .ok (.iload 5, 2) := by decide +kernel
theorem dX3_insert_56 : decode cX3_insert 56 = .ok (.aload_n 0, 1) := by decide +kernel
theorem dX3_insert_57 : decode cX3_insert 57 = .ok (.getfield 15, 3) := by decide +kernel
theorem dX3_insert_60 : decode cX3_insert 60 = .ok (.iload 5, 2) := by decide +kernel
theorem dX3_insert_62 : decode cX3_insert 62 = .ok (.iconst 1, 1) := by decide +kernel
theorem dX3_insert_63 : decode cX3_insert 63 = .ok (.isub, 1) := by decide +kernel
theorem dX3_insert_64 : decode cX3_insert 64 = .ok (.iaload, 1) := by decide +kernel
theorem dX3_insert_65 : decode cX3_insert 65 = .ok (.iastore, 1) := by decide +kernel
theorem dX3_insert_66 : decode cX3_insert 66 = .ok (.aload_n 0, 1) := by decide +kernel
theorem dX3_insert_67 : decode cX3_insert 67 = .ok (.getfield 18, 3) := by decide +kernel
theorem dX3_insert_70 : decode cX3_insert 70 = .ok (.iload 5, 2) := by decide +kernel
theorem dX3_insert_72 : decode cX3_insert 72 = .ok (.aload_n 0, 1) := by decide +kernel
theorem dX3_insert_73 : decode cX3_insert 73 = .ok (.getfield 18, 3) := by decide +kernel
theorem dX3_insert_76 : decode cX3_insert 76 = .ok (.iload 5, 2) := by decide +kernel
theorem dX3_insert_78 : decode cX3_insert 78 = .ok (.iconst 1, 1) := by decide +kernel
theorem dX3_insert_79 : decode cX3_insert 79 = .ok (.isub, 1) := by decide +kernel
theorem dX3_insert_80 : decode cX3_insert 80 = .ok (.iaload, 1) := by decide +kernel
theorem dX3_insert_81 : decode cX3_insert 81 = .ok (.iastore, 1) := by decide +kernel
theorem dX3_insert_82 : decode cX3_insert 82 = .ok (.aload_n 0, 1) := by decide +kernel
theorem dX3_insert_83 : decode cX3_insert 83 = .ok (.getfield 21, 3) := by decide +kernel
theorem dX3_insert_86 : decode cX3_insert 86 = .ok (.iload 5, 2) := by decide +kernel
theorem dX3_insert_88 : decode cX3_insert 88 = .ok (.aload_n 0, 1) := by decide +kernel
theorem dX3_insert_89 : decode cX3_insert 89 = .ok (.getfield 21, 3) := by decide +kernel
theorem dX3_insert_92 : decode cX3_insert 92 = .ok (.iload 5, 2) := by decide +kernel
theorem dX3_insert_94 : decode cX3_insert 94 = .ok (.iconst 1, 1) := by decide +kernel
theorem dX3_insert_95 : decode cX3_insert 95 = .ok (.isub, 1) := by decide +kernel
theorem dX3_insert_96 : decode cX3_insert 96 = .ok (.iaload, 1) := by decide +kernel
theorem dX3_insert_97 : decode cX3_insert 97 = .ok (.iastore, 1) := by decide +kernel
theorem dX3_insert_98 : decode cX3_insert 98 = .ok (.iinc 5 (-1), 3) := by decide +kernel
theorem dX3_insert_101 : decode cX3_insert 101 = .ok (.goto (-85), 3) := by decide +kernel
theorem dX3_insert_104 : decode cX3_insert 104 = .ok (.aload_n 0, 1) := by decide +kernel
theorem dX3_insert_105 : decode cX3_insert 105 = .ok (.getfield 9, 3) := by decide +kernel
theorem dX3_insert_108 : decode cX3_insert 108 = .ok (.iload 5, 2) := by decide +kernel
theorem dX3_insert_110 : decode cX3_insert 110 = .ok (.iload_n 3, 1) := by decide +kernel
theorem dX3_insert_111 : decode cX3_insert 111 = .ok (.iastore, 1) := by decide +kernel
theorem dX3_insert_112 : decode cX3_insert 112 = .ok (.aload_n 0, 1) := by decide +kernel
theorem dX3_insert_113 : decode cX3_insert 113 = .ok (.getfield 15, 3) := by decide +kernel
theorem dX3_insert_116 : decode cX3_insert 116 = .ok (.iload 5, 2) := by decide +kernel
theorem dX3_insert_118 : decode cX3_insert 118 = .ok (.iload 4, 2) := by decide +kernel
theorem dX3_insert_120 : decode cX3_insert 120 = .ok (.iastore, 1) := by decide +kernel
theorem dX3_insert_121 : decode cX3_insert 121 = .ok (.aload_n 0, 1) := by decide +kernel
theorem dX3_insert_122 : decode cX3_insert 122 = .ok (.getfield 18, 3) := by decide +kernel
theorem dX3_insert_125 : decode cX3_insert 125 = .ok (.iload 5, 2) := by decide +kernel
theorem dX3_insert_127 : decode cX3_insert 127 = .ok (.iload_n 1, 1) := by decide +kernel
theorem dX3_insert_128 : decode cX3_insert 128 = .ok (.iastore, 1) := by decide +kernel
theorem dX3_insert_129 : decode cX3_insert 129 = .ok (.aload_n 0, 1) := by decide +kernel
theorem dX3_insert_130 : decode cX3_insert 130 = .ok (.getfield 21, 3) := by decide +kernel
theorem dX3_insert_133 : decode cX3_insert 133 = .ok (.iload 5, 2) := by decide +kernel
theorem dX3_insert_135 : decode cX3_insert 135 = .ok (.iload_n 2, 1) := by decide +kernel
theorem dX3_insert_136 : decode cX3_insert 136 = .ok (.iastore, 1) := by decide +kernel
theorem dX3_insert_137 : decode cX3_insert 137 = .ok (.aload_n 0, 1) := by decide +kernel
theorem dX3_insert_138 : decode cX3_insert 138 = .ok (.dup, 1) := by decide +kernel
theorem dX3_insert_139 : decode cX3_insert 139 = .ok (.getfield 39, 3) := by decide +kernel
theorem dX3_insert_142 : decode cX3_insert 142 = .ok (.iconst 1, 1) := by decide +kernel
theorem dX3_insert_143 : decode cX3_insert 143 = .ok (.iadd, 1) := by decide +kernel
theorem dX3_insert_144 : decode cX3_insert 144 = .ok (.putfield 39, 3) := by decide +kernel
theorem dX3_insert_147 : decode cX3_insert 147 = .ok (.return_, 1) := by decide +kernel
set_option maxRecDepth 20000 in
theorem ggX3_sortByWidth_X3_width : GoodIn wsX3_sortByWidth wsX3_width := goodIn_r _ [7, 8, 9, 10, 11, 12, 13, 14, 15, 16, 17, 18, 19, 20] (by decide +kernel) (by decide +kernel)
set_option maxRecDepth 20000 in
theorem gX3_sortByWidth_X3_width : GoodIn wsX3_sortByWidth (wsV RX3 94 RX3 yX3_width wsX3_width) := goodIn_app (goodIn_of _ (by decide +kernel)) ggX3_sortByWidth_X3_width
theorem dX3_sortByWidth_0 : decode cX3_sortByWidth 0 = .ok (.iconst 0, 1) := by decide +kernel
theorem dX3_sortByWidth_1 : decode cX3_sortByWidth 1 = .ok (.istore_n 1, 1) := by decide +kernel
theorem dX3_sortByWidth_2 : decode cX3_sortByWidth 2 = .ok (.iload_n 1, 1) := by decide +kernel
theorem dX3_sortByWidth_3 : decode cX3_sortByWidth 3 = .ok (.aload_n 0, 1) := by decide +kernel
theorem dX3_sortByWidth_4 : decode cX3_sortByWidth 4 = .ok (.getfield 39, 3) := by decide +kernel
theorem dX3_sortByWidth_7 : decode cX3_sortByWidth 7 = .ok (.if_icmp .ge 62, 3) := by decide +kernel
theorem dX3_sortByWidth_10 : decode cX3_sortByWidth 10 = .ok (.iload_n 1, 1) := by decide +kernel
theorem dX3_sortByWidth_11 : decode cX3_sortByWidth 11 = .ok (.istore_n 2, 1) := by decide +kernel
theorem dX3_sortByWidth_12 : decode cX3_sortByWidth 12 = .ok (.iload_n 2, 1) := by decide +kernel
theorem dX3_sortByWidth_13 : decode cX3_sortByWidth 13 = .ok (.ifCond .le 43, 3) := by decide +kernel
theorem dX3_sortByWidth_16 : decode cX3_sortByWidth 16 = .ok (.aload_n 0, 1) := by decide +kernel
theorem dX3_sortByWidth_17 : decode cX3_sortByWidth 17 = .ok (.aload_n 0, 1) := by decide +kernel
theorem dX3_sortByWidth_18 : decode cX3_sortByWidth 18 = .ok (.getfield 36, 3) := by decide +kernel
theorem dX3_sortByWidth_21 : decode cX3_sortByWidth 21 = .ok (.iload_n 2, 1) := by decide +kernel
theorem dX3_sortByWidth_22 : decode cX3_sortByWidth 22 = .ok (.iconst 1, 1) := by decide +kernel
theorem dX3_sortByWidth_23 : decode cX3_sortByWidth 23 = .ok (.isub, 1) := by decide +kernel
theorem dX3_sortByWidth_24 : decode cX3_sortByWidth 24 = .ok (.iaload, 1) := by decide +kernel
theorem dX3_sortByWidth_25 : decode cX3_sortByWidth 25 = .ok (.invokevirtual 94, 3) := by decide +kernel
theorem dX3_sortByWidth_28 : decode cX3_sortByWidth 28 = .ok (.aload_n 0, 1) := by decide +kernel
theorem dX3_sortByWidth_29 : decode cX3_sortByWidth 29 = .ok (.iload_n 1, 1) := by decide +kernel
theorem dX3_sortByWidth_30 : decode cX3_sortByWidth 30 = .ok (.invokevirtual 94, 3) := by decide +kernel
theorem dX3_sortByWidth_33 : decode cX3_sortByWidth 33 = .ok (.if_icmp .le 23, 3) := by decide +kernel
theorem dX3_sortByWidth_36 : decode cX3_sortByWidth 36 = .ok (.aload_n 0, 1) := by decide +kernel
theorem dX3_sortByWidth_37 : decode cX3_sortByWidth 37 = .ok (.getfield 36, 3) := by decide +kernel
theorem dX3_sortByWidth_40 : decode cX3_sortByWidth 40 = .ok (.iload_n 2, 1) := by decide +kernel
theorem dX3_sortByWidth_41 : decode cX3_sortByWidth 41 = .ok (.aload_n 0, 1) := by decide +kernel
theorem dX3_sortByWidth_42 : decode cX3_sortByWidth 42 = .ok (.getfield 36, 3) := by decide +kernel
theorem dX3_sortByWidth_45 : decode cX3_sortByWidth 45 = .ok (.iload_n 2, 1) := by decide +kernel
theorem dX3_sortByWidth_46 : decode cX3_sortByWidth 46 = .ok (.iconst 1, 1) := by decide +kernel
theorem dX3_sortByWidth_47 : decode cX3_sortByWidth 47 = .ok (.isub, 1) := by decide +kernel
theorem dX3_sortByWidth_48 : decode cX3_sortByWidth 48 = .ok (.iaload, 1) := by decide +kernel
theorem dX3_sortByWidth_49 : decode cX3_sortByWidth 49 = .ok (.iastore, 1) := by decide +kernel
theorem dX3_sortByWidth_50 : decode cX3_sortByWidth 50 = .ok (.iinc 2 (-1), 3) := by decide +kernel
theorem dX3_sortByWidth_53 : decode cX3_sortByWidth 53 = .ok (.goto (-41), 3) := by decide +kernel
theorem dX3_sortByWidth_56 : decode cX3_sortByWidth 56 = .ok (.aload_n 0, 1) := by decide +kernel
theorem dX3_sortByWidth_57 : decode cX3_sortByWidth 57 = .ok (.getfield 36, 3) := by decide +kernel
theorem dX3_sortByWidth_60 : decode cX3_sortByWidth 60 = .ok (.iload_n 2, 1) := by decide +kernel
theorem dX3_sortByWidth_61 : decode cX3_sortByWidth 61 = .ok (.iload_n 1, 1) := by decide +kernel
theorem dX3_sortByWidth_62 : decode cX3_sortByWidth 62 = .ok (.iastore, 1) := by decide +kernel
theorem dX3_sortByWidth_63 : decode cX3_sortByWidth 63 = .ok (.iinc 1 1, 3) := by decide +kernel
theorem dX3_sortByWidth_66 : decode cX3_sortByWidth 66 = .ok (.goto (-64), 3) := by decide +kernel
theorem dX3_sortByWidth_69 : decode cX3_sortByWidth 69 = .ok (.return_, 1) := by decide +kernel
set_option maxRecDepth 20000 in
theorem ggX3_makeGroups_X3_width : GoodIn wsX3_makeGroups wsX3_width := goodIn_r _ [12, 13, 14, 15, 16, 17, 18, 19, 20, 21, 22, 23, 24, 25] (by decide +kernel) (by decide +kernel)
set_option maxRecDepth 20000 in
theorem gX3_makeGroups_X3_width : GoodIn wsX3_makeGroups (wsV RX3 94 RX3 yX3_width wsX3_width) := goodIn_app (goodIn_of _ (by decide +kernel)) ggX3_makeGroups_X3_width
theorem dX3_makeGroups_0 : decode cX3_makeGroups 0 = .ok (.aload_n 0, 1) := by decide +kernel
theorem dX3_makeGroups_1 : decode cX3_makeGroups 1 = .ok (.iconst 0, 1) := by decide +kernel
theorem dX3_makeGroups_2 : decode cX3_makeGroups 2 = .ok (.putfield 97, 3) := by decide +kernel
theorem dX3_makeGroups_5 : decode cX3_makeGroups 5 = .ok (.iconst 0, 1) := by decide +kernel
theorem dX3_makeGroups_6 : decode cX3_makeGroups 6 = .ok (.istore_n 2, 1) := by decide +kernel
theorem dX3_makeGroups_7 : decode cX3_makeGroups 7 = .ok (.iload_n 2, 1) := by decide +kernel
theorem dX3_makeGroups_8 : decode cX3_makeGroups 8 = .ok (.aload_n 0, 1) := by decide +kernel
theorem dX3_makeGroups_9 : decode cX3_makeGroups 9 = .ok (.getfield 39, 3) := by decide +kernel
theorem dX3_makeGroups_12 : decode cX3_makeGroups 12 = .ok (.if_icmp .ge 134, 3) := by decide +kernel
theorem dX3_makeGroups_15 : decode cX3_makeGroups 15 = .ok (.aload_n 0, 1) := by decide +kernel
theorem dX3_makeGroups_16 : decode cX3_makeGroups 16 = .ok (.getfield 36, 3) := by decide +kernel
theorem dX3_makeGroups_19 : decode cX3_makeGroups 19 = .ok (.iload_n 2, 1) := by decide +kernel
theorem dX3_makeGroups_20 : decode cX3_makeGroups 20 = .ok (.iaload, 1) := by decide +kernel
theorem dX3_makeGroups_21 : decode cX3_makeGroups 21 = .ok (.istore_n 3, 1) := by decide +kernel
theorem dX3_makeGroups_22 : decode cX3_makeGroups 22 = .ok (.aload_n 0, 1) := by decide +kernel
theorem dX3_makeGroups_23 : decode cX3_makeGroups 23 = .ok (.getfield 97, 3) := by decide +kernel
theorem dX3_makeGroups_26 : decode cX3_makeGroups 26 = .ok (.ifCond .eq 24, 3) := by decide +kernel
theorem dX3_makeGroups_29 : decode cX3_makeGroups 29 = .ok (.aload_n 0, 1) := by decide +kernel
theorem dX3_makeGroups_30 : decode cX3_makeGroups 30 = .ok (.iload_n 3, 1) := by decide +kernel
theorem dX3_makeGroups_31 : decode cX3_makeGroups 31 = .ok (.invokevirtual 94, 3) := by decide +kernel
theorem dX3_makeGroups_34 : decode cX3_makeGroups 34 = .ok (.aload_n 0, 1) := by decide +kernel
theorem dX3_makeGroups_35 : decode cX3_makeGroups 35 = .ok (.getfield 30, 3) := by decide +kernel
theorem dX3_makeGroups_38 : decode cX3_makeGroups 38 = .ok (.aload_n 0, 1) := by decide +kernel
theorem dX3_makeGroups_39 : decode cX3_makeGroups 39 = .ok (.getfield 97, 3) := by decide +kernel
theorem dX3_makeGroups_42 : decode cX3_makeGroups 42 = .ok (.iconst 1, 1) := by decide +kernel
theorem dX3_makeGroups_43 : decode cX3_makeGroups 43 = .ok (.isub, 1) := by decide +kernel
theorem dX3_makeGroups_44 : decode cX3_makeGroups 44 = .ok (.iaload, 1) := by decide +kernel
theorem dX3_makeGroups_45 : decode cX3_makeGroups 45 = .ok (.isub, 1) := by decide +kernel
theorem dX3_makeGroups_46 : decode cX3_makeGroups 46 = .ok (.iload_n 1, 1) := by decide +kernel
theorem dX3_makeGroups_47 : decode cX3_makeGroups 47 = .ok (.if_icmp .le 47, 3) := by decide +kernel
theorem dX3_makeGroups_50 : decode cX3_makeGroups 50 = .ok (.aload_n 0, 1) := by decide +kernel
theorem dX3_makeGroups_51 : decode cX3_makeGroups 51 = .ok (.getfield 27, 3) := by decide +kernel
theorem dX3_makeGroups_54 : decode cX3_makeGroups 54 = .ok (.aload_n 0, 1) := by decide +kernel
theorem dX3_makeGroups_55 : decode cX3_makeGroups 55 = .ok (.getfield 97, 3) := by decide +kernel
theorem dX3_makeGroups_58 : decode cX3_makeGroups 58 = .ok (.iconst 0, 1) := by decide +kernel
theorem dX3_makeGroups_59 : decode cX3_makeGroups 59 = .ok (.iastore, 1) := by decide +kernel
theorem dX3_makeGroups_60 : decode cX3_makeGroups 60 = .ok (.aload_n 0, 1) := by decide +kernel
theorem dX3_makeGroups_61 : decode cX3_makeGroups 61 = .ok (.getfield 30, 3) := by decide +kernel
theorem dX3_makeGroups_64 : decode cX3_makeGroups 64 = .ok (.aload_n 0, 1) := by decide +kernel
theorem dX3_makeGroups_65 : decode cX3_makeGroups 65 = .ok (.getfield 97, 3) := by decide +kernel
theorem dX3_makeGroups_68 : decode cX3_makeGroups 68 = .ok (.aload_n 0, 1) := by decide +kernel
theorem dX3_makeGroups_69 : decode cX3_makeGroups 69 = .ok (.iload_n 3, 1) := by decide +kernel
theorem dX3_makeGroups_70 : decode cX3_makeGroups 70 = .ok (.invokevirtual 94, 3) := by decide +kernel
theorem dX3_makeGroups_73 : decode cX3_makeGroups 73 = .ok (.iastore, 1) := by decide +kernel
theorem dX3_makeGroups_74 : decode cX3_makeGroups 74 = .ok (.aload_n 0, 1) := by decide +kernel
theorem dX3_makeGroups_75 : decode cX3_makeGroups 75 = .ok (.getfield 33, 3) := by decide +kernel
theorem dX3_makeGroups_78 : decode cX3_makeGroups 78 = .ok (.aload_n 0, 1) := by decide +kernel
theorem dX3_makeGroups_79 : decode cX3_makeGroups 79 = .ok (.getfield 97, 3) := by decide +kernel
theorem dX3_makeGroups_82 : decode cX3_makeGroups 82 = .ok (.iconst 0, 1) := by decide +kernel
theorem dX3_makeGroups_83 : decode cX3_makeGroups 83 = .ok (.iastore, 1) := by decide +kernel
theorem dX3_makeGroups_84 : decode cX3_makeGroups 84 = .ok (.aload_n 0, 1) := by decide +kernel
theorem dX3_makeGroups_85 : decode cX3_makeGroups 85 = .ok (.dup, 1) := by decide +kernel
theorem dX3_makeGroups_86 : decode cX3_makeGroups 86 = .ok (.getfield 97, 3) := by decide +kernel
theorem dX3_makeGroups_89 : decode cX3_makeGroups 89 = .ok (.iconst 1, 1) := by decide +kernel
theorem dX3_makeGroups_90 : decode cX3_makeGroups 90 = .ok (.iadd, 1) := by decide +kernel
theorem dX3_makeGroups_91 : decode cX3_makeGroups 91 = .ok (.putfield 97, 3) := by decide +kernel
theorem dX3_makeGroups_94 : decode cX3_makeGroups 94 = .ok (.aload_n 0, 1) := by decide +kernel
theorem dX3_makeGroups_95 : decode cX3_makeGroups 95 = .ok (.getfield 24, 3) := by decide +kernel
theorem dX3_makeGroups_98 : decode cX3_makeGroups 98 = .ok (.iload_n 3, 1) := by decide +kernel
theorem dX3_makeGroups_99 : decode cX3_makeGroups 99 = .ok (.aload_n 0, 1) := by decide +kernel
theorem dX3_makeGroups_100 : decode cX3_makeGroups 100 = .ok (.getfield 97, 3) := by decide +kernel
theorem dX3_makeGroups_103 : decode cX3_makeGroups 103 = .ok (.iconst 1, 1) := by decide +kernel
theorem dX3_makeGroups_104 : decode cX3_makeGroups 104 = .ok (.isub, 1) := by decide +kernel
theorem dX3_makeGroups_105 : decode cX3_makeGroups 105 = .ok (.iastore, 1) := by decide +kernel
theorem dX3_makeGroups_106 : decode cX3_makeGroups 106 = .ok (.aload_n 0, 1) := by decide +kernel
theorem dX3_makeGroups_107 : decode cX3_makeGroups 107 = .ok (.getfield 27, 3) := by decide +kernel
theorem dX3_makeGroups_110 : decode cX3_makeGroups 110 = .ok (.aload_n 0, 1) := by decide +kernel
theorem dX3_makeGroups_111 : decode cX3_makeGroups 111 = .ok (.getfield 97, 3) := by decide +kernel
theorem dX3_makeGroups_114 : decode cX3_makeGroups 114 = .ok (.iconst 1, 1) := by decide +kernel
theorem dX3_makeGroups_115 : decode cX3_makeGroups 115 = .ok (.isub, 1) := by decide +kernel
theorem dX3_makeGroups_116 : decode cX3_makeGroups 116 = .ok (.dup2, 1) := by decide +kernel
theorem dX3_makeGroups_117 : decode cX3_makeGroups 117 = .ok (.iaload, 1) := by decide +kernel
theorem dX3_makeGroups_118 : decode cX3_makeGroups 118 = .ok (.iconst 1, 1) := by decide +kernel
theorem dX3_makeGroups_119 : decode cX3_makeGroups 119 = .ok (.iadd, 1) := by decide +kernel
theorem dX3_makeGroups_120 : decode cX3_makeGroups 120 = .ok (.iastore, 1) := by decide +kernel
theorem dX3_makeGroups_121 : decode cX3_makeGroups 121 = .ok (.aload_n 0, 1) := by decide +kernel
theorem dX3_makeGroups_122 : decode cX3_makeGroups 122 = .ok (.getfield 33, 3) := by decide +kernel
theorem dX3_makeGroups_125 : decode cX3_makeGroups 125 = .ok (.aload_n 0, 1) := by decide +kernel
theorem dX3_makeGroups_126 : decode cX3_makeGroups 126 = .ok (.getfield 97, 3) := by decide +kernel
theorem dX3_makeGroups_129 : decode cX3_makeGroups 129 = .ok (.iconst 1, 1) := by decide +kernel
theorem dX3_makeGroups_130 : decode cX3_makeGroups 130 = .ok (.isub, 1) := by decide +kernel
theorem dX3_makeGroups_131 : decode cX3_makeGroups 131 = .ok (.dup2, 1) := by decide +kernel
theorem dX3_makeGroups_132 : decode cX3_makeGroups 132 = .ok (.iaload, 1) := by decide +kernel
theorem dX3_makeGroups_133 : decode cX3_makeGroups 133 = .ok (.aload_n 0, 1) := by decide +kernel
theorem dX3_makeGroups_134 : decode cX3_makeGroups 134 = .ok (.iload_n 3, 1) := by decide +kernel
theorem dX3_makeGroups_135 : decode cX3_makeGroups 135 = .ok (.invokevirtual 94, 3) := by decide +kernel
theorem dX3_makeGroups_138 : decode cX3_makeGroups 138 = .ok (.iadd, 1) := by decide +kernel
theorem dX3_makeGroups_139 : decode cX3_makeGroups 139 = .ok (.iastore, 1) := by decide +kernel
theorem dX3_makeGroups_140 : decode cX3_makeGroups 140 = .ok (.iinc 2 1, 3) := by decide +kernel
theorem dX3_makeGroups_143 : decode cX3_makeGroups 143 = .ok (.goto (-136), 3) := by decide +kernel
theorem dX3_makeGroups_146 : decode cX3_makeGroups 146 = .ok (.return_, 1) := by decide +kernel
set_option maxRecDepth 20000 in
theorem ggX4_init_X2_init : GoodIn wsX4_init wsX2_init := goodIn_r _ [25, 26, 2, 3, 27, 28, 29, 71, 72, 73] (by decide +kernel) (by decide +kernel)
set_option maxRecDepth 20000 in
theorem gX4_init_X2_init : GoodIn wsX4_init (wsX2_init) := ggX4_init_X2_init
set_option maxRecDepth 20000 in
theorem ggX4_init_X1_init : GoodIn wsX4_init wsX1_init := goodIn_r _ [32, 33, 2, 3, 27, 34, 35, 36, 37, 38, 39, 40, 41, 42, 80, 81, 82, 83, 84, 85] (by decide +kernel) (by decide +kernel)
set_option maxRecDepth 20000 in
theorem gX4_init_X1_init : GoodIn wsX4_init (wsX1_init) := ggX4_init_X1_init
set_option maxRecDepth 20000 in
theorem ggX4_init_X3_init : GoodIn wsX4_init wsX3_init := goodIn_r _ [45, 46, 2, 3, 27, 47, 48, 49, 50, 51, 52, 53, 54, 55, 86, 87, 88, 89, 90, 91, 92, 93, 94, 95, 96] (by decide +kernel) (by decide +kernel)
set_option maxRecDepth 20000 in
theorem gX4_init_X3_init : GoodIn wsX4_init (wsX3_init) := ggX4_init_X3_init
set_option maxRecDepth 20000 in
theorem ggX4_init_X0_init : GoodIn wsX4_init wsX0_init := goodIn_r _ [58, 59, 2, 3, 60, 61, 62, 63, 27, 64, 13, 65, 66, 67, 68, 69, 70, 97, 98, 99, 100, 101, 102, 103, 104, 105, 106, 107, 108] (by decide +kernel) (by decide +kernel)
set_option maxRecDepth 20000 in
theorem gX4_init_X0_init : GoodIn wsX4_init (wsX0_init) := ggX4_init_X0_init
theorem dX4_init_0 : decode cX4_init 0 = .ok (.aload_n 0, 1) := by decide +kernel
theorem dX4_init_1 : decode cX4_init 1 = .ok (.invokespecial 1, 3) := by decide +kernel
theorem dX4_init_4 : decode cX4_init 4 = .ok (.aload_n 0, 1) := by decide +kernel
theorem dX4_init_5 : decode cX4_init 5 = .ok (.new 7, 3) := by decide +kernel
theorem dX4_init_8 : decode cX4_init 8 = .ok (.dup, 1) := by decide +kernel
theorem dX4_init_9 : decode cX4_init 9 = .ok (.invokespecial 9, 3) := by decide +kernel
theorem dX4_init_12 : decode cX4_init 12 = .ok (.putfield 10, 3) := by decide +kernel
theorem dX4_init_15 : decode cX4_init 15 = .ok (.aload_n 0, 1) := by decide +kernel
theorem dX4_init_16 : decode cX4_init 16 = .ok (.new 16, 3) := by decide +kernel
theorem dX4_init_19 : decode cX4_init 19 = .ok (.dup, 1) := by decide +kernel
theorem dX4_init_20 : decode cX4_init 20 = .ok (.invokespecial 18, 3) := by decide +kernel
theorem dX4_init_23 : decode cX4_init 23 = .ok (.putfield 19, 3) := by decide +kernel
theorem dX4_init_26 : decode cX4_init 26 = .ok (.aload_n 0, 1) := by decide +kernel
theorem dX4_init_27 : decode cX4_init 27 = .ok (.iconst 2, 1) := by decide +kernel
theorem dX4_init_28 : decode cX4_init 28 = .ok (.anewarray 16, 3) := by decide +kernel
theorem dX4_init_31 : decode cX4_init 31 = .ok (.putfield 23, 3) := by decide +kernel
theorem dX4_init_34 : decode cX4_init 34 = .ok (.iconst 0, 1) := by decide +kernel
theorem dX4_init_35 : decode cX4_init 35 = .ok (.istore_n 1, 1) := by decide +kernel
theorem dX4_init_36 : decode cX4_init 36 = .ok (.iload_n 1, 1) := by decide +kernel
theorem dX4_init_37 : decode cX4_init 37 = .ok (.iconst 2, 1) := by decide +kernel
theorem dX4_init_38 : decode cX4_init 38 = .ok (.if_icmp .ge 22, 3) := by decide +kernel
theorem dX4_init_41 : decode cX4_init 41 = .ok (.aload_n 0, 1) := by decide +kernel
theorem dX4_init_42 : decode cX4_init 42 = .ok (.getfield 23, 3) := by decide +kernel
theorem dX4_init_45 : decode cX4_init 45 = .ok (.iload_n 1, 1) := by decide +kernel
theorem dX4_init_46 : decode cX4_init 46 = .ok (.new 16, 3) := by decide +kernel
theorem dX4_init_49 : decode cX4_init 49 = .ok (.dup, 1) := by decide +kernel
theorem dX4_init_50 : decode cX4_init 50 = .ok (.invokespecial 18, 3) := by decide +kernel
theorem dX4_init_53 : decode cX4_init 53 = .ok (.aastore, 1) := by decide +kernel
theorem dX4_init_54 : decode cX4_init 54 = .ok (.iinc 1 1, 3) := by decide +kernel
theorem dX4_init_57 : decode cX4_init 57 = .ok (.goto (-21), 3) := by decide +kernel
theorem dX4_init_60 : decode cX4_init 60 = .ok (.aload_n 0, 1) := by decide +kernel
theorem dX4_init_61 : decode cX4_init 61 = .ok (.iconst 2, 1) := by decide +kernel
theorem dX4_init_62 : decode cX4_init 62 = .ok (.newarray .boolean, 2) := by decide +kernel
theorem dX4_init_64 : decode cX4_init 64 = .ok (.putfield 27, 3) := by decide +kernel
theorem dX4_init_67 : decode cX4_init 67 = .ok (.aload_n 0, 1) := by decide +kernel
theorem dX4_init_68 : decode cX4_init 68 = .ok (.new 31, 3) := by decide +kernel
theorem dX4_init_71 : decode cX4_init 71 = .ok (.dup, 1) := by decide +kernel
theorem dX4_init_72 : decode cX4_init 72 = .ok (.invokespecial 33, 3) := by decide +kernel
theorem dX4_init_75 : decode cX4_init 75 = .ok (.putfield 34, 3) := by decide +kernel
theorem dX4_init_78 : decode cX4_init 78 = .ok (.aload_n 0, 1) := by decide +kernel
theorem dX4_init_79 : decode cX4_init 79 = .ok (.new 38, 3) := by decide +kernel
theorem dX4_init_82 : decode cX4_init 82 = .ok (.dup, 1) := by decide +kernel
theorem dX4_init_83 : decode cX4_init 83 = .ok (.aload_n 0, 1) := by decide +kernel
theorem dX4_init_84 : decode cX4_init 84 = .ok (.getfield 19, 3) := by decide +kernel
theorem dX4_init_87 : decode cX4_init 87 = .ok (.aload_n 0, 1) := by decide +kernel
theorem dX4_init_88 : decode cX4_init 88 = .ok (.getfield 34, 3) := by decide +kernel
theorem dX4_init_91 : decode cX4_init 91 = .ok (.invokespecial 40, 3) := by decide +kernel
theorem dX4_init_94 : decode cX4_init 94 = .ok (.putfield 43, 3) := by decide +kernel
theorem dX4_init_97 : decode cX4_init 97 = .ok (.return_, 1) := by decide +kernel
set_option maxRecDepth 20000 in
theorem ggX4_say_X4_isWithin : GoodIn wsX4_say wsX4_isWithin := goodIn_r _ [6] (by decide +kernel) (by decide +kernel)
set_option maxRecDepth 20000 in
theorem gX4_say_X4_isWithin : GoodIn wsX4_say (va_wsS RX4 47 yX4_isWithin wsX4_isWithin) := goodIn_app (goodIn_of _ (by decide +kernel)) ggX4_say_X4_isWithin
set_option maxRecDepth 20000 in
theorem ggX4_say_X2_add : GoodIn wsX4_say wsX2_add := goodIn_r _ [11, 12, 13, 20, 21, 22] (by decide +kernel) (by decide +kernel)
set_option maxRecDepth 20000 in
theorem gX4_say_X2_add : GoodIn wsX4_say (wsV RX4 51 RX2 yX2_add wsX2_add) := goodIn_app (goodIn_of _ (by decide +kernel)) ggX4_say_X2_add
theorem dX4_say_0 : decode cX4_say 0 = .ok (.iload_n 1, 1) := by decide +kernel
theorem dX4_say_1 : decode cX4_say 1 = .ok (.bipush 33, 2) := by decide +kernel
theorem dX4_say_3 : decode cX4_say 3 = .ok (.bipush 126, 2) := by decide +kernel
theorem dX4_say_5 : decode cX4_say 5 = .ok (.invokestatic 47, 3) := by decide +kernel
theorem dX4_say_8 : decode cX4_say 8 = .ok (.ifCond .ne 6, 3) := by decide +kernel
theorem dX4_say_11 : decode cX4_say 11 = .ok (.bipush (-2), 2) := by decide +kernel
theorem dX4_say_13 : decode cX4_say 13 = .ok (.ireturn, 1) := by decide +kernel
theorem dX4_say_14 : decode cX4_say 14 = .ok (.aload_n 0, 1) := by decide +kernel
theorem dX4_say_15 : decode cX4_say 15 = .ok (.getfield 10, 3) := by decide +kernel
theorem dX4_say_18 : decode cX4_say 18 = .ok (.iload_n 1, 1) := by decide +kernel
theorem dX4_say_19 : decode cX4_say 19 = .ok (.invokevirtual 51, 3) := by decide +kernel
theorem dX4_say_22 : decode cX4_say 22 = .ok (.ifCond .eq 13, 3) := by decide +kernel
theorem dX4_say_25 : decode cX4_say 25 = .ok (.aload_n 0, 1) := by decide +kernel
theorem dX4_say_26 : decode cX4_say 26 = .ok (.getfield 10, 3) := by decide +kernel
theorem dX4_say_29 : decode cX4_say 29 = .ok (.getfield 55, 3) := by decide +kernel
theorem dX4_say_32 : decode cX4_say 32 = .ok (.goto 5, 3) := by decide +kernel
theorem dX4_say_35 : decode cX4_say 35 = .ok (.bipush (-4), 2) := by decide +kernel
theorem dX4_say_37 : decode cX4_say 37 = .ok (.ireturn, 1) := by decide +kernel
set_option maxRecDepth 20000 in
theorem ggX4_wipe_X2_clear : GoodIn wsX4_wipe wsX2_clear := goodIn_r _ [7, 8, 15, 16, 17] (by decide +kernel) (by decide +kernel)
set_option maxRecDepth 20000 in
theorem gX4_wipe_X2_clear : GoodIn wsX4_wipe (wsV RX4 59 RX2 yX2_clear wsX2_clear) := goodIn_app (goodIn_of _ (by decide +kernel)) ggX4_wipe_X2_clear
theorem dX4_wipe_0 : decode cX4_wipe 0 = .ok (.aload_n 0, 1) := by decide +kernel
theorem dX4_wipe_1 : decode cX4_wipe 1 = .ok (.getfield 10, 3) := by decide +kernel
theorem dX4_wipe_4 : decode cX4_wipe 4 = .ok (.getfield 55, 3) := by decide +kernel
theorem dX4_wipe_7 : decode cX4_wipe 7 = .ok (.istore_n 1, 1) := by decide +kernel
theorem dX4_wipe_8 : decode cX4_wipe 8 = .ok (.aload_n 0, 1) := by decide +kernel
theorem dX4_wipe_9 : decode cX4_wipe 9 = .ok (.getfield 10, 3) := by decide +kernel
theorem dX4_wipe_12 : decode cX4_wipe 12 = .ok (.invokevirtual 59, 3) := by decide +kernel
theorem dX4_wipe_15 : decode cX4_wipe 15 = .ok (.iload_n 1, 1) := by decide +kernel
theorem dX4_wipe_16 : decode cX4_wipe 16 = .ok (.ireturn, 1) := by decide +kernel
set_option maxRecDepth 20000 in
theorem ggX4_edge_X2_read : GoodIn wsX4_edge wsX2_read := goodIn_r _ [8, 9, 10, 11, 12, 13, 14, 7, 15, 16, 17, 18, 19, 20, 21, 22, 23, 24, 25, 26, 27, 124, 125, 126] (by decide +kernel) (by decide +kernel)
set_option maxRecDepth 20000 in
theorem gX4_edge_X2_read : GoodIn wsX4_edge (wsV RX4 62 RX2 yX2_read wsX2_read) := goodIn_app (goodIn_of _ (by decide +kernel)) ggX4_edge_X2_read
set_option maxRecDepth 20000 in
theorem ggX4_edge_X1_add : GoodIn wsX4_edge wsX1_add := goodIn_r _ [32, 33, 34, 35, 36, 37, 38, 13, 7, 14, 15, 10, 16, 118, 119, 120, 121, 122, 123, 124, 125, 126] (by decide +kernel) (by decide +kernel)
set_option maxRecDepth 20000 in
theorem gX4_edge_X1_add : GoodIn wsX4_edge (wsV RX4 66 RX1 yX1_add wsX1_add) := goodIn_app (goodIn_of _ (by decide +kernel)) ggX4_edge_X1_add
set_option maxRecDepth 20000 in
theorem ggX4_edge_X2_clear : GoodIn wsX4_edge wsX2_clear := goodIn_r _ [42, 10, 124, 125, 126] (by decide +kernel) (by decide +kernel)
set_option maxRecDepth 20000 in
theorem gX4_edge_X2_clear : GoodIn wsX4_edge (wsV RX4 59 RX2 yX2_clear wsX2_clear) := goodIn_app (goodIn_of _ (by decide +kernel)) ggX4_edge_X2_clear
set_option maxRecDepth 20000 in
theorem ggX4_edge_X4_renew : GoodIn wsX4_edge wsX4_renew := goodIn_r _ [46, 47, 2, 48, 49, 50, 51, 52, 53, 54, 55, 56, 57, 58, 59, 60, 61, 62, 63, 64, 31, 65, 34, 35, 38, 66, 67, 68, 69, 37, 70, 71, 72, 25, 26, 27, 73, 74, 75, 76, 77, 78, 79, 80, 81, 82, 83, 84, 85, 86, 87, 88, 89, 90, 91, 92, 93, 94, 95, 96, 97, 98, 99, 100, 101, 102, 103, 104, 105, 106, 107, 108, 109, 110, 111, 112, 113, 114, 115, 116, 117, 127, 128, 129, 130, 131, 132, 133, 134, 135, 136, 137, 118, 119, 120, 121, 122, 123, 138, 139, 140, 141, 142, 143, 144, 145, 146, 147, 148, 149] (by decide +kernel) (by decide +kernel)
set_option maxRecDepth 20000 in
theorem gX4_edge_X4_renew : GoodIn wsX4_edge (wsV RX4 69 RX4 yX4_renew wsX4_renew) := goodIn_app (goodIn_of _ (by decide +kernel)) ggX4_edge_X4_renew
theorem dX4_edge_0 : decode cX4_edge 0 = .ok (.aload_n 0, 1) := by decide +kernel
theorem dX4_edge_1 : decode cX4_edge 1 = .ok (.getfield 10, 3) := by decide +kernel
theorem dX4_edge_4 : decode cX4_edge 4 = .ok (.invokevirtual 62, 3) := by decide +kernel
theorem dX4_edge_7 : decode cX4_edge 7 = .ok (.bipush (-6), 2) := by decide +kernel
theorem dX4_edge_9 : decode cX4_edge 9 = .ok (.if_icmp .eq 6, 3) := by decide +kernel
theorem dX4_edge_12 : decode cX4_edge 12 = .ok (.bipush (-5), 2) := by decide +kernel
theorem dX4_edge_14 : decode cX4_edge 14 = .ok (.ireturn, 1) := by decide +kernel
theorem dX4_edge_15 : decode cX4_edge 15 = .ok (.aload_n 0, 1) := by decide +kernel
theorem dX4_edge_16 : decode cX4_edge 16 = .ok (.getfield 19, 3) := by decide +kernel
theorem dX4_edge_19 : decode cX4_edge 19 = .ok (.aload_n 0, 1) := by decide +kernel
theorem dX4_edge_20 : decode cX4_edge 20 = .ok (.getfield 10, 3) := by decide +kernel
theorem dX4_edge_23 : decode cX4_edge 23 = .ok (.invokevirtual 66, 3) := by decide +kernel
theorem dX4_edge_26 : decode cX4_edge 26 = .ok (.ifCond .ne 6, 3) := by decide +kernel
theorem dX4_edge_29 : decode cX4_edge 29 = .ok (.bipush (-4), 2) := by decide +kernel
theorem dX4_edge_31 : decode cX4_edge 31 = .ok (.ireturn, 1) := by decide +kernel
theorem dX4_edge_32 : decode cX4_edge 32 = .ok (.aload_n 0, 1) := by decide +kernel
theorem dX4_edge_33 : decode cX4_edge 33 = .ok (.getfield 10, 3) := by decide +kernel
theorem dX4_edge_36 : decode cX4_edge 36 = .ok (.invokevirtual 59, 3) := by decide +kernel
theorem dX4_edge_39 : decode cX4_edge 39 = .ok (.aload_n 0, 1) := by decide +kernel
theorem dX4_edge_40 : decode cX4_edge 40 = .ok (.invokevirtual 69, 3) := by decide +kernel
theorem dX4_edge_43 : decode cX4_edge 43 = .ok (.aload_n 0, 1) := by decide +kernel
theorem dX4_edge_44 : decode cX4_edge 44 = .ok (.getfield 19, 3) := by decide +kernel
theorem dX4_edge_47 : decode cX4_edge 47 = .ok (.getfield 72, 3) := by decide +kernel
theorem dX4_edge_50 : decode cX4_edge 50 = .ok (.ireturn, 1) := by decide +kernel
set_option maxRecDepth 20000 in
theorem ggX4_erase_X4_isWithin : GoodIn wsX4_erase wsX4_isWithin := goodIn_r _ [6] (by decide +kernel) (by decide +kernel)
set_option maxRecDepth 20000 in
theorem gX4_erase_X4_isWithin : GoodIn wsX4_erase (va_wsS RX4 47 yX4_isWithin wsX4_isWithin) := goodIn_app (goodIn_of _ (by decide +kernel)) ggX4_erase_X4_isWithin
set_option maxRecDepth 20000 in
theorem ggX4_erase_X1_remove : GoodIn wsX4_erase wsX1_remove := goodIn_r _ [11, 12, 13, 14, 15, 16, 92, 93, 94, 95, 96, 97] (by decide +kernel) (by decide +kernel)
set_option maxRecDepth 20000 in
theorem gX4_erase_X1_remove : GoodIn wsX4_erase (wsV RX4 75 RX1 yX1_remove wsX1_remove) := goodIn_app (goodIn_of _ (by decide +kernel)) ggX4_erase_X1_remove
set_option maxRecDepth 20000 in
theorem ggX4_erase_X4_renew : GoodIn wsX4_erase wsX4_renew := goodIn_r _ [20, 21, 1, 22, 23, 24, 25, 26, 27, 28, 29, 30, 31, 32, 33, 34, 35, 36, 37, 38, 10, 39, 13, 14, 16, 40, 41, 42, 43, 15, 44, 45, 46, 4, 5, 6, 47, 48, 49, 50, 51, 52, 53, 54, 55, 56, 57, 58, 59, 60, 61, 62, 63, 64, 65, 66, 67, 68, 69, 70, 71, 72, 73, 74, 75, 76, 77, 78, 79, 80, 81, 82, 83, 84, 85, 86, 87, 88, 89, 90, 91, 98, 99, 100, 101, 102, 103, 104, 105, 106, 107, 108, 92, 93, 94, 95, 96, 97, 109, 110, 111, 112, 113, 114, 115, 116, 117, 118, 119, 120] (by decide +kernel) (by decide +kernel)
set_option maxRecDepth 20000 in
theorem gX4_erase_X4_renew : GoodIn wsX4_erase (wsV RX4 69 RX4 yX4_renew wsX4_renew) := goodIn_app (goodIn_of _ (by decide +kernel)) ggX4_erase_X4_renew
theorem dX4_erase_0 : decode cX4_erase 0 = .ok (.iload_n 1, 1) := by decide +kernel
theorem dX4_erase_1 : decode cX4_erase 1 = .ok (.iconst 0, 1) := by decide +kernel
theorem dX4_erase_2 : decode cX4_erase 2 = .ok (.aload_n 0, 1) := by decide +kernel
theorem dX4_erase_3 : decode cX4_erase 3 = .ok (.getfield 19, 3) := by decide +kernel
theorem dX4_erase_6 : decode cX4_erase 6 = .ok (.getfield 72, 3) := by decide +kernel
theorem dX4_erase_9 : decode cX4_erase 9 = .ok (.iconst 1, 1) := by decide +kernel
theorem dX4_erase_10 : decode cX4_erase 10 = .ok (.isub, 1) := by decide +kernel
theorem dX4_erase_11 : decode cX4_erase 11 = .ok (.invokestatic 47, 3) := by decide +kernel
theorem dX4_erase_14 : decode cX4_erase 14 = .ok (.ifCond .ne 5, 3) := by decide +kernel
theorem dX4_erase_17 : decode cX4_erase 17 = .ok (.iconst (-1), 1) := by decide +kernel
theorem dX4_erase_18 : decode cX4_erase 18 = .ok (.ireturn, 1) := by decide +kernel
theorem dX4_erase_19 : decode cX4_erase 19 = .ok (.aload_n 0, 1) := by decide +kernel
theorem dX4_erase_20 : decode cX4_erase 20 = .ok (.getfield 19, 3) := by decide +kernel
theorem dX4_erase_23 : decode cX4_erase 23 = .ok (.iload_n 1, 1) := by decide +kernel
theorem dX4_erase_24 : decode cX4_erase 24 = .ok (.invokevirtual 75, 3) := by decide +kernel
theorem dX4_erase_27 : decode cX4_erase 27 = .ok (.aload_n 0, 1) := by decide +kernel
theorem dX4_erase_28 : decode cX4_erase 28 = .ok (.invokevirtual 69, 3) := by decide +kernel
theorem dX4_erase_31 : decode cX4_erase 31 = .ok (.aload_n 0, 1) := by decide +kernel
theorem dX4_erase_32 : decode cX4_erase 32 = .ok (.getfield 19, 3) := by decide +kernel
theorem dX4_erase_35 : decode cX4_erase 35 = .ok (.getfield 72, 3) := by decide +kernel
theorem dX4_erase_38 : decode cX4_erase 38 = .ok (.ireturn, 1) := by decide +kernel
set_option maxRecDepth 20000 in
theorem ggX4_told_X4_isWithin : GoodIn wsX4_told wsX4_isWithin := goodIn_r _ [11] (by decide +kernel) (by decide +kernel)
set_option maxRecDepth 20000 in
theorem gX4_told_X4_isWithin : GoodIn wsX4_told (va_wsS RX4 47 yX4_isWithin wsX4_isWithin) := goodIn_app (goodIn_of _ (by decide +kernel)) ggX4_told_X4_isWithin
set_option maxRecDepth 20000 in
theorem ggX4_told_X3_withEdge : GoodIn wsX4_told wsX3_withEdge := goodIn_r _ [16, 17, 18, 19, 32, 33, 34, 35, 36, 37, 38, 39, 40, 41, 42] (by decide +kernel) (by decide +kernel)
set_option maxRecDepth 20000 in
theorem gX4_told_X3_withEdge : GoodIn wsX4_told (wsV RX4 92 RX3 yX3_withEdge wsX3_withEdge) := goodIn_app (goodIn_of _ (by decide +kernel)) ggX4_told_X3_withEdge
theorem dX4_told_0 : decode cX4_told 0 = .ok (.iload_n 1, 1) := by decide +kernel
theorem dX4_told_1 : decode cX4_told 1 = .ok (.iconst 0, 1) := by decide +kernel
theorem dX4_told_2 : decode cX4_told 2 = .ok (.aload_n 0, 1) := by decide +kernel
theorem dX4_told_3 : decode cX4_told 3 = .ok (.getfield 19, 3) := by decide +kernel
theorem dX4_told_6 : decode cX4_told 6 = .ok (.getfield 72, 3) := by decide +kernel
theorem dX4_told_9 : decode cX4_told 9 = .ok (.iconst 1, 1) := by decide +kernel
theorem dX4_told_10 : decode cX4_told 10 = .ok (.isub, 1) := by decide +kernel
theorem dX4_told_11 : decode cX4_told 11 = .ok (.invokestatic 47, 3) := by decide +kernel
theorem dX4_told_14 : decode cX4_told 14 = .ok (.ifCond .ne 5, 3) := by decide +kernel
theorem dX4_told_17 : decode cX4_told 17 = .ok (.iconst (-1), 1) := by decide +kernel
theorem dX4_told_18 : decode cX4_told 18 = .ok (.ireturn, 1) := by decide +kernel
theorem dX4_told_19 : decode cX4_told 19 = .ok (.iload_n 2, 1) := by decide +kernel
theorem dX4_told_20 : decode cX4_told 20 = .ok (.tableswitch 85 0 4 #[36, 46, 56, 66, 76], 36) := by decide +kernel
theorem dX4_told_56 : decode cX4_told 56 = .ok (.aload_n 0, 1) := by decide +kernel
theorem dX4_told_57 : decode cX4_told 57 = .ok (.getfield 19, 3) := by decide +kernel
theorem dX4_told_60 : decode cX4_told 60 = .ok (.getfield 79, 3) := by decide +kernel
theorem dX4_told_63 : decode cX4_told 63 = .ok (.iload_n 1, 1) := by decide +kernel
theorem dX4_told_64 : decode cX4_told 64 = .ok (.iaload, 1) := by decide +kernel
theorem dX4_told_65 : decode cX4_told 65 = .ok (.ireturn, 1) := by decide +kernel
theorem dX4_told_66 : decode cX4_told 66 = .ok (.aload_n 0, 1) := by decide +kernel
theorem dX4_told_67 : decode cX4_told 67 = .ok (.getfield 19, 3) := by decide +kernel
theorem dX4_told_70 : decode cX4_told 70 = .ok (.getfield 83, 3) := by decide +kernel
theorem dX4_told_73 : decode cX4_told 73 = .ok (.iload_n 1, 1) := by decide +kernel
theorem dX4_told_74 : decode cX4_told 74 = .ok (.iaload, 1) := by decide +kernel
theorem dX4_told_75 : decode cX4_told 75 = .ok (.ireturn, 1) := by decide +kernel
theorem dX4_told_76 : decode cX4_told 76 = .ok (.aload_n 0, 1) := by decide +kernel
theorem dX4_told_77 : decode cX4_told 77 = .ok (.getfield 19, 3) := by decide +kernel
theorem dX4_told_80 : decode cX4_told 80 = .ok (.getfield 86, 3) := by decide +kernel
theorem dX4_told_83 : decode cX4_told 83 = .ok (.iload_n 1, 1) := by decide +kernel
theorem dX4_told_84 : decode cX4_told 84 = .ok (.iaload, 1) := by decide +kernel
theorem dX4_told_85 : decode cX4_told 85 = .ok (.ireturn, 1) := by decide +kernel
theorem dX4_told_86 : decode cX4_told 86 = .ok (.aload_n 0, 1) := by decide +kernel
theorem dX4_told_87 : decode cX4_told 87 = .ok (.getfield 19, 3) := by decide +kernel
theorem dX4_told_90 : decode cX4_told 90 = .ok (.getfield 89, 3) := by decide +kernel
theorem dX4_told_93 : decode cX4_told 93 = .ok (.iload_n 1, 1) := by decide +kernel
theorem dX4_told_94 : decode cX4_told 94 = .ok (.iaload, 1) := by decide +kernel
theorem dX4_told_95 : decode cX4_told 95 = .ok (.ireturn, 1) := by decide +kernel
theorem dX4_told_96 : decode cX4_told 96 = .ok (.aload_n 0, 1) := by decide +kernel
theorem dX4_told_97 : decode cX4_told 97 = .ok (.getfield 34, 3) := by decide +kernel
theorem dX4_told_100 : decode cX4_told 100 = .ok (.iload_n 1, 1) := by decide +kernel
theorem dX4_told_101 : decode cX4_told 101 = .ok (.invokevirtual 92, 3) := by decide +kernel
theorem dX4_told_104 : decode cX4_told 104 = .ok (.ireturn, 1) := by decide +kernel
theorem dX4_told_105 : decode cX4_told 105 = .ok (.bipush (-2), 2) := by decide +kernel
theorem dX4_told_107 : decode cX4_told 107 = .ok (.ireturn, 1) := by decide +kernel
set_option maxRecDepth 20000 in
theorem ggX4_rule_X4_isWithin : GoodIn wsX4_rule wsX4_isWithin := goodIn_r _ [7] (by decide +kernel) (by decide +kernel)
set_option maxRecDepth 20000 in
theorem gX4_rule_X4_isWithin : GoodIn wsX4_rule (va_wsS RX4 47 yX4_isWithin wsX4_isWithin) := goodIn_app (goodIn_of _ (by decide +kernel)) ggX4_rule_X4_isWithin
set_option maxRecDepth 20000 in
theorem ggX4_rule_X4_renew : GoodIn wsX4_rule wsX4_renew := goodIn_r _ [11, 12, 2, 13, 14, 15, 16, 17, 18, 19, 20, 21, 22, 23, 24, 25, 26, 27, 28, 29, 30, 31, 32, 33, 34, 35, 36, 37, 38, 39, 40, 41, 42, 5, 6, 7, 43, 44, 45, 46, 47, 48, 49, 50, 51, 52, 53, 54, 55, 56, 57, 58, 59, 60, 61, 62, 63, 64, 65, 66, 67, 68, 69, 70, 71, 72, 73, 74, 75, 76, 77, 78, 79, 80, 81, 82, 83, 84, 85, 86, 87, 94, 95, 96, 97, 98, 99, 100, 101, 102, 103, 104, 88, 89, 90, 91, 92, 93, 105, 106, 107, 108, 109, 110, 111, 112, 113, 114, 115, 116] (by decide +kernel) (by decide +kernel)
set_option maxRecDepth 20000 in
theorem gX4_rule_X4_renew : GoodIn wsX4_rule (wsV RX4 69 RX4 yX4_renew wsX4_renew) := goodIn_app (goodIn_of _ (by decide +kernel)) ggX4_rule_X4_renew
theorem dX4_rule_0 : decode cX4_rule 0 = .ok (.iload_n 1, 1) := by decide +kernel
theorem dX4_rule_1 : decode cX4_rule 1 = .ok (.iconst 0, 1) := by decide +kernel
theorem dX4_rule_2 : decode cX4_rule 2 = .ok (.iconst 4, 1) := by decide +kernel
theorem dX4_rule_3 : decode cX4_rule 3 = .ok (.invokestatic 47, 3) := by decide +kernel
theorem dX4_rule_6 : decode cX4_rule 6 = .ok (.ifCond .eq 16, 3) := by decide +kernel
theorem dX4_rule_9 : decode cX4_rule 9 = .ok (.iload_n 2, 1) := by decide +kernel
theorem dX4_rule_10 : decode cX4_rule 10 = .ok (.iconst 0, 1) := by decide +kernel
theorem dX4_rule_11 : decode cX4_rule 11 = .ok (.getstatic 96, 3) := by decide +kernel
theorem dX4_rule_14 : decode cX4_rule 14 = .ok (.iload_n 1, 1) := by decide +kernel
theorem dX4_rule_15 : decode cX4_rule 15 = .ok (.iaload, 1) := by decide +kernel
theorem dX4_rule_16 : decode cX4_rule 16 = .ok (.invokestatic 47, 3) := by decide +kernel
theorem dX4_rule_19 : decode cX4_rule 19 = .ok (.ifCond .ne 6, 3) := by decide +kernel
theorem dX4_rule_22 : decode cX4_rule 22 = .ok (.bipush (-2), 2) := by decide +kernel
theorem dX4_rule_24 : decode cX4_rule 24 = .ok (.ireturn, 1) := by decide +kernel
theorem dX4_rule_25 : decode cX4_rule 25 = .ok (.aload_n 0, 1) := by decide +kernel
theorem dX4_rule_26 : decode cX4_rule 26 = .ok (.getfield 19, 3) := by decide +kernel
theorem dX4_rule_29 : decode cX4_rule 29 = .ok (.getfield 99, 3) := by decide +kernel
theorem dX4_rule_32 : decode cX4_rule 32 = .ok (.iload_n 1, 1) := by decide +kernel
theorem dX4_rule_33 : decode cX4_rule 33 = .ok (.iaload, 1) := by decide +kernel
theorem dX4_rule_34 : decode cX4_rule 34 = .ok (.istore_n 3, 1) := by decide +kernel
theorem dX4_rule_35 : decode cX4_rule 35 = .ok (.aload_n 0, 1) := by decide +kernel
theorem dX4_rule_36 : decode cX4_rule 36 = .ok (.getfield 19, 3) := by decide +kernel
theorem dX4_rule_39 : decode cX4_rule 39 = .ok (.getfield 99, 3) := by decide +kernel
theorem dX4_rule_42 : decode cX4_rule 42 = .ok (.iload_n 1, 1) := by decide +kernel
theorem dX4_rule_43 : decode cX4_rule 43 = .ok (.iload_n 2, 1) := by decide +kernel
theorem dX4_rule_44 : decode cX4_rule 44 = .ok (.iastore, 1) := by decide +kernel
theorem dX4_rule_45 : decode cX4_rule 45 = .ok (.aload_n 0, 1) := by decide +kernel
theorem dX4_rule_46 : decode cX4_rule 46 = .ok (.invokevirtual 69, 3) := by decide +kernel
theorem dX4_rule_49 : decode cX4_rule 49 = .ok (.iload_n 3, 1) := by decide +kernel
theorem dX4_rule_50 : decode cX4_rule 50 = .ok (.ireturn, 1) := by decide +kernel
set_option maxRecDepth 20000 in
theorem ggX4_stem_X4_isWithin : GoodIn wsX4_stem wsX4_isWithin := goodIn_r _ [11] (by decide +kernel) (by decide +kernel)
set_option maxRecDepth 20000 in
theorem gX4_stem_X4_isWithin : GoodIn wsX4_stem (va_wsS RX4 47 yX4_isWithin wsX4_isWithin) := goodIn_app (goodIn_of _ (by decide +kernel)) ggX4_stem_X4_isWithin
theorem dX4_stem_0 : decode cX4_stem 0 = .ok (.iload_n 1, 1) := by decide +kernel
theorem dX4_stem_1 : decode cX4_stem 1 = .ok (.iconst 0, 1) := by decide +kernel
theorem dX4_stem_2 : decode cX4_stem 2 = .ok (.aload_n 0, 1) := by decide +kernel
theorem dX4_stem_3 : decode cX4_stem 3 = .ok (.getfield 34, 3) := by decide +kernel
theorem dX4_stem_6 : decode cX4_stem 6 = .ok (.getfield 102, 3) := by decide +kernel
theorem dX4_stem_9 : decode cX4_stem 9 = .ok (.iconst 1, 1) := by decide +kernel
theorem dX4_stem_10 : decode cX4_stem 10 = .ok (.isub, 1) := by decide +kernel
theorem dX4_stem_11 : decode cX4_stem 11 = .ok (.invokestatic 47, 3) := by decide +kernel
theorem dX4_stem_14 : decode cX4_stem 14 = .ok (.ifCond .ne 5, 3) := by decide +kernel
theorem dX4_stem_17 : decode cX4_stem 17 = .ok (.iconst (-1), 1) := by decide +kernel
theorem dX4_stem_18 : decode cX4_stem 18 = .ok (.ireturn, 1) := by decide +kernel
theorem dX4_stem_19 : decode cX4_stem 19 = .ok (.iload_n 2, 1) := by decide +kernel
theorem dX4_stem_20 : decode cX4_stem 20 = .ok (.tableswitch 86 0 4 #[36, 46, 56, 66, 76], 36) := by decide +kernel
theorem dX4_stem_56 : decode cX4_stem 56 = .ok (.aload_n 0, 1) := by decide +kernel
theorem dX4_stem_57 : decode cX4_stem 57 = .ok (.getfield 34, 3) := by decide +kernel
theorem dX4_stem_60 : decode cX4_stem 60 = .ok (.getfield 105, 3) := by decide +kernel
theorem dX4_stem_63 : decode cX4_stem 63 = .ok (.iload_n 1, 1) := by decide +kernel
theorem dX4_stem_64 : decode cX4_stem 64 = .ok (.iaload, 1) := by decide +kernel
theorem dX4_stem_65 : decode cX4_stem 65 = .ok (.ireturn, 1) := by decide +kernel
theorem dX4_stem_66 : decode cX4_stem 66 = .ok (.aload_n 0, 1) := by decide +kernel
theorem dX4_stem_67 : decode cX4_stem 67 = .ok (.getfield 34, 3) := by decide +kernel
theorem dX4_stem_70 : decode cX4_stem 70 = .ok (.getfield 108, 3) := by decide +kernel
theorem dX4_stem_73 : decode cX4_stem 73 = .ok (.iload_n 1, 1) := by decide +kernel
theorem dX4_stem_74 : decode cX4_stem 74 = .ok (.iaload, 1) := by decide +kernel
theorem dX4_stem_75 : decode cX4_stem 75 = .ok (.ireturn, 1) := by decide +kernel
theorem dX4_stem_76 : decode cX4_stem 76 = .ok (.aload_n 0, 1) := by decide +kernel
theorem dX4_stem_77 : decode cX4_stem 77 = .ok (.getfield 34, 3) := by decide +kernel
theorem dX4_stem_80 : decode cX4_stem 80 = .ok (.getfield 111, 3) := by decide +kernel
theorem dX4_stem_83 : decode cX4_stem 83 = .ok (.iload_n 1, 1) := by decide +kernel
theorem dX4_stem_84 : decode cX4_stem 84 = .ok (.iaload, 1) := by decide +kernel
theorem dX4_stem_85 : decode cX4_stem 85 = .ok (.ireturn, 1) := by decide +kernel
theorem dX4_stem_86 : decode cX4_stem 86 = .ok (.aload_n 0, 1) := by decide +kernel
theorem dX4_stem_87 : decode cX4_stem 87 = .ok (.getfield 34, 3) := by decide +kernel
theorem dX4_stem_90 : decode cX4_stem 90 = .ok (.getfield 114, 3) := by decide +kernel
theorem dX4_stem_93 : decode cX4_stem 93 = .ok (.iload_n 1, 1) := by decide +kernel
theorem dX4_stem_94 : decode cX4_stem 94 = .ok (.iaload, 1) := by decide +kernel
theorem dX4_stem_95 : decode cX4_stem 95 = .ok (.ireturn, 1) := by decide +kernel
theorem dX4_stem_96 : decode cX4_stem 96 = .ok (.aload_n 0, 1) := by decide +kernel
theorem dX4_stem_97 : decode cX4_stem 97 = .ok (.getfield 34, 3) := by decide +kernel
theorem dX4_stem_100 : decode cX4_stem 100 = .ok (.getfield 117, 3) := by decide +kernel
theorem dX4_stem_103 : decode cX4_stem 103 = .ok (.iload_n 1, 1) := by decide +kernel
theorem dX4_stem_104 : decode cX4_stem 104 = .ok (.iaload, 1) := by decide +kernel
theorem dX4_stem_105 : decode cX4_stem 105 = .ok (.ireturn, 1) := by decide +kernel
theorem dX4_stem_106 : decode cX4_stem 106 = .ok (.bipush (-2), 2) := by decide +kernel
theorem dX4_stem_108 : decode cX4_stem 108 = .ok (.ireturn, 1) := by decide +kernel
set_option maxRecDepth 20000 in
theorem ggX4_kind_X4_isWithin : GoodIn wsX4_kind wsX4_isWithin := goodIn_r _ [8] (by decide +kernel) (by decide +kernel)
set_option maxRecDepth 20000 in
theorem gX4_kind_X4_isWithin : GoodIn wsX4_kind (va_wsS RX4 47 yX4_isWithin wsX4_isWithin) := goodIn_app (goodIn_of _ (by decide +kernel)) ggX4_kind_X4_isWithin
set_option maxRecDepth 20000 in
theorem ggX4_kind_X3_standard : GoodIn wsX4_kind wsX3_standard := goodIn_r _ [13, 14, 15, 22, 23, 24, 25, 26, 27, 28, 29, 30, 31, 32] (by decide +kernel) (by decide +kernel)
set_option maxRecDepth 20000 in
theorem gX4_kind_X3_standard : GoodIn wsX4_kind (wsV RX4 129 RX3 yX3_standard wsX3_standard) := goodIn_app (goodIn_of _ (by decide +kernel)) ggX4_kind_X3_standard
theorem dX4_kind_0 : decode cX4_kind 0 = .ok (.iload_n 1, 1) := by decide +kernel
theorem dX4_kind_1 : decode cX4_kind 1 = .ok (.iconst 0, 1) := by decide +kernel
theorem dX4_kind_2 : decode cX4_kind 2 = .ok (.aload_n 0, 1) := by decide +kernel
theorem dX4_kind_3 : decode cX4_kind 3 = .ok (.getfield 34, 3) := by decide +kernel
theorem dX4_kind_6 : decode cX4_kind 6 = .ok (.getfield 120, 3) := by decide +kernel
theorem dX4_kind_9 : decode cX4_kind 9 = .ok (.iconst 1, 1) := by decide +kernel
theorem dX4_kind_10 : decode cX4_kind 10 = .ok (.isub, 1) := by decide +kernel
theorem dX4_kind_11 : decode cX4_kind 11 = .ok (.invokestatic 47, 3) := by decide +kernel
theorem dX4_kind_14 : decode cX4_kind 14 = .ok (.ifCond .ne 5, 3) := by decide +kernel
theorem dX4_kind_17 : decode cX4_kind 17 = .ok (.iconst (-1), 1) := by decide +kernel
theorem dX4_kind_18 : decode cX4_kind 18 = .ok (.ireturn, 1) := by decide +kernel
theorem dX4_kind_19 : decode cX4_kind 19 = .ok (.iload_n 2, 1) := by decide +kernel
theorem dX4_kind_20 : decode cX4_kind 20 = .ok (.tableswitch 57 0 2 #[28, 38, 48], 28) := by decide +kernel
theorem dX4_kind_48 : decode cX4_kind 48 = .ok (.aload_n 0, 1) := by decide +kernel
theorem dX4_kind_49 : decode cX4_kind 49 = .ok (.getfield 34, 3) := by decide +kernel
theorem dX4_kind_52 : decode cX4_kind 52 = .ok (.getfield 123, 3) := by decide +kernel
theorem dX4_kind_55 : decode cX4_kind 55 = .ok (.iload_n 1, 1) := by decide +kernel
theorem dX4_kind_56 : decode cX4_kind 56 = .ok (.iaload, 1) := by decide +kernel
theorem dX4_kind_57 : decode cX4_kind 57 = .ok (.ireturn, 1) := by decide +kernel
theorem dX4_kind_58 : decode cX4_kind 58 = .ok (.aload_n 0, 1) := by decide +kernel
theorem dX4_kind_59 : decode cX4_kind 59 = .ok (.getfield 34, 3) := by decide +kernel
theorem dX4_kind_62 : decode cX4_kind 62 = .ok (.getfield 126, 3) := by decide +kernel
theorem dX4_kind_65 : decode cX4_kind 65 = .ok (.iload_n 1, 1) := by decide +kernel
theorem dX4_kind_66 : decode cX4_kind 66 = .ok (.iaload, 1) := by decide +kernel
theorem dX4_kind_67 : decode cX4_kind 67 = .ok (.ireturn, 1) := by decide +kernel
theorem dX4_kind_68 : decode cX4_kind 68 = .ok (.aload_n 0, 1) := by decide +kernel
theorem dX4_kind_69 : decode cX4_kind 69 = .ok (.getfield 34, 3) := by decide +kernel
theorem dX4_kind_72 : decode cX4_kind 72 = .ok (.iload_n 1, 1) := by decide +kernel
theorem dX4_kind_73 : decode cX4_kind 73 = .ok (.invokevirtual 129, 3) := by decide +kernel
theorem dX4_kind_76 : decode cX4_kind 76 = .ok (.ireturn, 1) := by decide +kernel
theorem dX4_kind_77 : decode cX4_kind 77 = .ok (.bipush (-2), 2) := by decide +kernel
theorem dX4_kind_79 : decode cX4_kind 79 = .ok (.ireturn, 1) := by decide +kernel
set_option maxRecDepth 20000 in
theorem ggX4_dots_X4_isWithin : GoodIn wsX4_dots wsX4_isWithin := goodIn_r _ [8] (by decide +kernel) (by decide +kernel)
set_option maxRecDepth 20000 in
theorem gX4_dots_X4_isWithin : GoodIn wsX4_dots (va_wsS RX4 47 yX4_isWithin wsX4_isWithin) := goodIn_app (goodIn_of _ (by decide +kernel)) ggX4_dots_X4_isWithin
set_option maxRecDepth 20000 in
theorem ggX4_dots_X4_isSize : GoodIn wsX4_dots wsX4_isSize := goodIn_r _ [11, 5, 6, 7, 8] (by decide +kernel) (by decide +kernel)
set_option maxRecDepth 20000 in
theorem gX4_dots_X4_isSize : GoodIn wsX4_dots (va_wsS RX4 132 yX4_isSize wsX4_isSize) := goodIn_app (goodIn_of _ (by decide +kernel)) ggX4_dots_X4_isSize
set_option maxRecDepth 20000 in
theorem ggX4_dots_X3_dotsOfGroup : GoodIn wsX4_dots wsX3_dotsOfGroup := goodIn_r _ [16, 17, 18, 19, 20, 21, 22, 23, 15, 24, 25, 26, 33, 34, 35, 36, 37, 38, 39, 40, 41, 42, 43] (by decide +kernel) (by decide +kernel)
set_option maxRecDepth 20000 in
theorem gX4_dots_X3_dotsOfGroup : GoodIn wsX4_dots (wsV RX4 135 RX3 yX3_dotsOfGroup wsX3_dotsOfGroup) := goodIn_app (goodIn_of _ (by decide +kernel)) ggX4_dots_X3_dotsOfGroup
theorem dX4_dots_0 : decode cX4_dots 0 = .ok (.iload_n 1, 1) := by decide +kernel
theorem dX4_dots_1 : decode cX4_dots 1 = .ok (.iconst 0, 1) := by decide +kernel
theorem dX4_dots_2 : decode cX4_dots 2 = .ok (.aload_n 0, 1) := by decide +kernel
theorem dX4_dots_3 : decode cX4_dots 3 = .ok (.getfield 34, 3) := by decide +kernel
theorem dX4_dots_6 : decode cX4_dots 6 = .ok (.getfield 120, 3) := by decide +kernel
theorem dX4_dots_9 : decode cX4_dots 9 = .ok (.iconst 1, 1) := by decide +kernel
theorem dX4_dots_10 : decode cX4_dots 10 = .ok (.isub, 1) := by decide +kernel
theorem dX4_dots_11 : decode cX4_dots 11 = .ok (.invokestatic 47, 3) := by decide +kernel
theorem dX4_dots_14 : decode cX4_dots 14 = .ok (.ifCond .ne 5, 3) := by decide +kernel
theorem dX4_dots_17 : decode cX4_dots 17 = .ok (.iconst (-1), 1) := by decide +kernel
theorem dX4_dots_18 : decode cX4_dots 18 = .ok (.ireturn, 1) := by decide +kernel
theorem dX4_dots_19 : decode cX4_dots 19 = .ok (.iload_n 2, 1) := by decide +kernel
theorem dX4_dots_20 : decode cX4_dots 20 = .ok (.invokestatic 132, 3) := by decide +kernel
theorem dX4_dots_23 : decode cX4_dots 23 = .ok (.ifCond .ne 6, 3) := by decide +kernel
theorem dX4_dots_26 : decode cX4_dots 26 = .ok (.bipush (-2), 2) := by decide +kernel
theorem dX4_dots_28 : decode cX4_dots 28 = .ok (.ireturn, 1) := by decide +kernel
theorem dX4_dots_29 : decode cX4_dots 29 = .ok (.aload_n 0, 1) := by decide +kernel
theorem dX4_dots_30 : decode cX4_dots 30 = .ok (.getfield 34, 3) := by decide +kernel
theorem dX4_dots_33 : decode cX4_dots 33 = .ok (.iload_n 1, 1) := by decide +kernel
theorem dX4_dots_34 : decode cX4_dots 34 = .ok (.iload_n 2, 1) := by decide +kernel
theorem dX4_dots_35 : decode cX4_dots 35 = .ok (.aload_n 0, 1) := by decide +kernel
theorem dX4_dots_36 : decode cX4_dots 36 = .ok (.getfield 19, 3) := by decide +kernel
theorem dX4_dots_39 : decode cX4_dots 39 = .ok (.getfield 99, 3) := by decide +kernel
theorem dX4_dots_42 : decode cX4_dots 42 = .ok (.iconst 4, 1) := by decide +kernel
theorem dX4_dots_43 : decode cX4_dots 43 = .ok (.iaload, 1) := by decide +kernel
theorem dX4_dots_44 : decode cX4_dots 44 = .ok (.invokevirtual 135, 3) := by decide +kernel
theorem dX4_dots_47 : decode cX4_dots 47 = .ok (.ireturn, 1) := by decide +kernel
set_option maxRecDepth 20000 in
theorem ggX4_grows_X4_isWithin : GoodIn wsX4_grows wsX4_isWithin := goodIn_r _ [8] (by decide +kernel) (by decide +kernel)
set_option maxRecDepth 20000 in
theorem gX4_grows_X4_isWithin : GoodIn wsX4_grows (va_wsS RX4 47 yX4_isWithin wsX4_isWithin) := goodIn_app (goodIn_of _ (by decide +kernel)) ggX4_grows_X4_isWithin
set_option maxRecDepth 20000 in
theorem ggX4_grows_X3_dotsOfGroup : GoodIn wsX4_grows wsX3_dotsOfGroup := goodIn_r _ [13, 14, 15, 16, 17, 18, 19, 20, 12, 21, 22, 23, 30, 31, 32, 33, 34, 35, 36, 37, 38, 39, 40] (by decide +kernel) (by decide +kernel)
set_option maxRecDepth 20000 in
theorem gX4_grows_X3_dotsOfGroup : GoodIn wsX4_grows (wsV RX4 135 RX3 yX3_dotsOfGroup wsX3_dotsOfGroup) := goodIn_app (goodIn_of _ (by decide +kernel)) ggX4_grows_X3_dotsOfGroup
theorem dX4_grows_0 : decode cX4_grows 0 = .ok (.iload_n 1, 1) := by decide +kernel
theorem dX4_grows_1 : decode cX4_grows 1 = .ok (.iconst 0, 1) := by decide +kernel
theorem dX4_grows_2 : decode cX4_grows 2 = .ok (.aload_n 0, 1) := by decide +kernel
theorem dX4_grows_3 : decode cX4_grows 3 = .ok (.getfield 34, 3) := by decide +kernel
theorem dX4_grows_6 : decode cX4_grows 6 = .ok (.getfield 120, 3) := by decide +kernel
theorem dX4_grows_9 : decode cX4_grows 9 = .ok (.iconst 1, 1) := by decide +kernel
theorem dX4_grows_10 : decode cX4_grows 10 = .ok (.isub, 1) := by decide +kernel
theorem dX4_grows_11 : decode cX4_grows 11 = .ok (.invokestatic 47, 3) := by decide +kernel
theorem dX4_grows_14 : decode cX4_grows 14 = .ok (.ifCond .ne 5, 3) := by decide +kernel
theorem dX4_grows_17 : decode cX4_grows 17 = .ok (.iconst (-1), 1) := by decide +kernel
theorem dX4_grows_18 : decode cX4_grows 18 = .ok (.ireturn, 1) := by decide +kernel
theorem dX4_grows_19 : decode cX4_grows 19 = .ok (.iload_n 2, 1) := by decide +kernel
theorem dX4_grows_20 : decode cX4_grows 20 = .ok (.iconst 1, 1) := by decide +kernel
theorem dX4_grows_21 : decode cX4_grows 21 = .ok (.bipush 60, 2) := by decide +kernel
theorem dX4_grows_23 : decode cX4_grows 23 = .ok (.invokestatic 47, 3) := by decide +kernel
theorem dX4_grows_26 : decode cX4_grows 26 = .ok (.ifCond .ne 6, 3) := by decide +kernel
theorem dX4_grows_29 : decode cX4_grows 29 = .ok (.bipush (-2), 2) := by decide +kernel
theorem dX4_grows_31 : decode cX4_grows 31 = .ok (.ireturn, 1) := by decide +kernel
theorem dX4_grows_32 : decode cX4_grows 32 = .ok (.iconst 1, 1) := by decide +kernel
theorem dX4_grows_33 : decode cX4_grows 33 = .ok (.istore_n 3, 1) := by decide +kernel
theorem dX4_grows_34 : decode cX4_grows 34 = .ok (.iload_n 3, 1) := by decide +kernel
theorem dX4_grows_35 : decode cX4_grows 35 = .ok (.bipush 60, 2) := by decide +kernel
theorem dX4_grows_37 : decode cX4_grows 37 = .ok (.if_icmp .gt 33, 3) := by decide +kernel
theorem dX4_grows_40 : decode cX4_grows 40 = .ok (.aload_n 0, 1) := by decide +kernel
theorem dX4_grows_41 : decode cX4_grows 41 = .ok (.getfield 34, 3) := by decide +kernel
theorem dX4_grows_44 : decode cX4_grows 44 = .ok (.iload_n 1, 1) := by decide +kernel
theorem dX4_grows_45 : decode cX4_grows 45 = .ok (.iload_n 3, 1) := by decide +kernel
theorem dX4_grows_46 : decode cX4_grows 46 = .ok (.aload_n 0, 1) := by decide +kernel
theorem dX4_grows_47 : decode cX4_grows 47 = .ok (.getfield 19, 3) := by decide +kernel
theorem dX4_grows_50 : decode cX4_grows 50 = .ok (.getfield 99, 3) := by decide +kernel
theorem dX4_grows_53 : decode cX4_grows 53 = .ok (.iconst 4, 1) := by decide +kernel
theorem dX4_grows_54 : decode cX4_grows 54 = .ok (.iaload, 1) := by decide +kernel
theorem dX4_grows_55 : decode cX4_grows 55 = .ok (.invokevirtual 135, 3) := by decide +kernel
theorem dX4_grows_58 : decode cX4_grows 58 = .ok (.iload_n 2, 1) := by decide +kernel
theorem dX4_grows_59 : decode cX4_grows 59 = .ok (.if_icmp .lt 5, 3) := by decide +kernel
theorem dX4_grows_62 : decode cX4_grows 62 = .ok (.iload_n 3, 1) := by decide +kernel
theorem dX4_grows_63 : decode cX4_grows 63 = .ok (.ireturn, 1) := by decide +kernel
theorem dX4_grows_64 : decode cX4_grows 64 = .ok (.iinc 3 1, 3) := by decide +kernel
theorem dX4_grows_67 : decode cX4_grows 67 = .ok (.goto (-33), 3) := by decide +kernel
theorem dX4_grows_70 : decode cX4_grows 70 = .ok (.bipush (-6), 2) := by decide +kernel
theorem dX4_grows_72 : decode cX4_grows 72 = .ok (.ireturn, 1) := by decide +kernel
set_option maxRecDepth 20000 in
theorem ggX4_fit_X4_isWithin : GoodIn wsX4_fit wsX4_isWithin := goodIn_r _ [7] (by decide +kernel) (by decide +kernel)
set_option maxRecDepth 20000 in
theorem gX4_fit_X4_isWithin : GoodIn wsX4_fit (va_wsS RX4 47 yX4_isWithin wsX4_isWithin) := goodIn_app (goodIn_of _ (by decide +kernel)) ggX4_fit_X4_isWithin
set_option maxRecDepth 20000 in
theorem ggX4_fit_X4_isSize : GoodIn wsX4_fit wsX4_isSize := goodIn_r _ [10, 4, 5, 6, 7] (by decide +kernel) (by decide +kernel)
set_option maxRecDepth 20000 in
theorem gX4_fit_X4_isSize : GoodIn wsX4_fit (va_wsS RX4 132 yX4_isSize wsX4_isSize) := goodIn_app (goodIn_of _ (by decide +kernel)) ggX4_fit_X4_isSize
set_option maxRecDepth 20000 in
theorem ggX4_fit_X0_isAt : GoodIn wsX4_fit wsX0_isAt := goodIn_r _ [15, 16, 17, 18, 19, 20, 14, 21, 22, 23, 24, 25, 26, 27, 28, 29, 30, 31, 32, 33, 34, 35, 36, 37, 38, 39, 40, 41, 42, 43, 44, 45, 46, 47, 48, 49, 50, 51, 52, 53, 54, 55, 56, 57, 58, 59, 60, 61, 62, 63, 64, 65, 66, 67, 68, 69, 70, 71, 72, 73, 74, 75, 76, 77, 78, 79, 80, 81, 82, 83, 84, 85, 86, 87, 88, 89, 90, 91, 92, 93, 94, 95, 96, 97, 98, 99, 100, 101, 102, 103, 104, 105, 106, 107, 108, 109, 110, 111, 112, 113, 114, 115, 116, 117, 139, 140, 141, 142, 143, 144, 145, 146, 147, 148, 149, 150, 128, 129, 130, 131, 132, 133, 134, 135, 136, 137, 138, 151, 152, 153, 154, 155, 156] (by decide +kernel) (by decide +kernel)
set_option maxRecDepth 20000 in
theorem gX4_fit_X0_isAt : GoodIn wsX4_fit (wsV RX4 139 RX0 yX0_isAt wsX0_isAt) := goodIn_app (goodIn_of _ (by decide +kernel)) ggX4_fit_X0_isAt
set_option maxRecDepth 20000 in
theorem ggX4_fit_X0_leftDot : GoodIn wsX4_fit wsX0_leftDot := goodIn_r _ [121, 109, 139, 140, 141, 142, 143, 144, 145, 146, 147, 148, 149, 150] (by decide +kernel) (by decide +kernel)
set_option maxRecDepth 20000 in
theorem gX4_fit_X0_leftDot : GoodIn wsX4_fit (wsV RX4 142 RX0 yX0_leftDot wsX0_leftDot) := goodIn_app (goodIn_of _ (by decide +kernel)) ggX4_fit_X0_leftDot
theorem dX4_fit_0 : decode cX4_fit 0 = .ok (.iload_n 2, 1) := by decide +kernel
theorem dX4_fit_1 : decode cX4_fit 1 = .ok (.iconst 0, 1) := by decide +kernel
theorem dX4_fit_2 : decode cX4_fit 2 = .ok (.aload_n 0, 1) := by decide +kernel
theorem dX4_fit_3 : decode cX4_fit 3 = .ok (.getfield 34, 3) := by decide +kernel
theorem dX4_fit_6 : decode cX4_fit 6 = .ok (.getfield 102, 3) := by decide +kernel
theorem dX4_fit_9 : decode cX4_fit 9 = .ok (.iconst 1, 1) := by decide +kernel
theorem dX4_fit_10 : decode cX4_fit 10 = .ok (.isub, 1) := by decide +kernel
theorem dX4_fit_11 : decode cX4_fit 11 = .ok (.invokestatic 47, 3) := by decide +kernel
theorem dX4_fit_14 : decode cX4_fit 14 = .ok (.ifCond .ne 5, 3) := by decide +kernel
theorem dX4_fit_17 : decode cX4_fit 17 = .ok (.iconst (-1), 1) := by decide +kernel
theorem dX4_fit_18 : decode cX4_fit 18 = .ok (.ireturn, 1) := by decide +kernel
theorem dX4_fit_19 : decode cX4_fit 19 = .ok (.iload_n 1, 1) := by decide +kernel
theorem dX4_fit_20 : decode cX4_fit 20 = .ok (.invokestatic 132, 3) := by decide +kernel
theorem dX4_fit_23 : decode cX4_fit 23 = .ok (.ifCond .ne 6, 3) := by decide +kernel
theorem dX4_fit_26 : decode cX4_fit 26 = .ok (.bipush (-2), 2) := by decide +kernel
theorem dX4_fit_28 : decode cX4_fit 28 = .ok (.ireturn, 1) := by decide +kernel
theorem dX4_fit_29 : decode cX4_fit 29 = .ok (.aload_n 0, 1) := by decide +kernel
theorem dX4_fit_30 : decode cX4_fit 30 = .ok (.getfield 43, 3) := by decide +kernel
theorem dX4_fit_33 : decode cX4_fit 33 = .ok (.iload_n 1, 1) := by decide +kernel
theorem dX4_fit_34 : decode cX4_fit 34 = .ok (.invokevirtual 139, 3) := by decide +kernel
theorem dX4_fit_37 : decode cX4_fit 37 = .ok (.ifCond .eq 15, 3) := by decide +kernel
theorem dX4_fit_40 : decode cX4_fit 40 = .ok (.aload_n 0, 1) := by decide +kernel
theorem dX4_fit_41 : decode cX4_fit 41 = .ok (.getfield 43, 3) := by decide +kernel
theorem dX4_fit_44 : decode cX4_fit 44 = .ok (.iload_n 1, 1) := by decide +kernel
theorem dX4_fit_45 : decode cX4_fit 45 = .ok (.iload_n 2, 1) := by decide +kernel
theorem dX4_fit_46 : decode cX4_fit 46 = .ok (.invokevirtual 142, 3) := by decide +kernel
theorem dX4_fit_49 : decode cX4_fit 49 = .ok (.goto 5, 3) := by decide +kernel
theorem dX4_fit_52 : decode cX4_fit 52 = .ok (.bipush (-3), 2) := by decide +kernel
theorem dX4_fit_54 : decode cX4_fit 54 = .ok (.ireturn, 1) := by decide +kernel
set_option maxRecDepth 20000 in
theorem ggX4_distortion_X4_isSize : GoodIn wsX4_distortion wsX4_isSize := goodIn_r _ [8, 9, 10, 7, 11] (by decide +kernel) (by decide +kernel)
set_option maxRecDepth 20000 in
theorem gX4_distortion_X4_isSize : GoodIn wsX4_distortion (va_wsS RX4 132 yX4_isSize wsX4_isSize) := goodIn_app (goodIn_of _ (by decide +kernel)) ggX4_distortion_X4_isSize
set_option maxRecDepth 20000 in
theorem ggX4_distortion_X0_isAt : GoodIn wsX4_distortion wsX0_isAt := goodIn_r _ [16, 17, 18, 19, 20, 21, 15, 22, 23, 24, 25, 26, 27, 28, 29, 30, 31, 32, 33, 34, 35, 36, 37, 38, 39, 40, 41, 42, 43, 44, 45, 46, 47, 48, 49, 50, 51, 52, 53, 54, 55, 56, 57, 58, 59, 60, 61, 62, 63, 64, 65, 66, 67, 68, 69, 70, 71, 72, 73, 74, 75, 76, 77, 78, 79, 80, 81, 82, 83, 84, 85, 86, 87, 88, 89, 90, 91, 92, 93, 94, 95, 96, 97, 98, 99, 100, 101, 102, 103, 104, 105, 106, 107, 108, 109, 110, 111, 112, 113, 114, 115, 116, 117, 118, 125, 126, 127, 128, 129, 130, 131, 132, 133, 134, 135, 136, 137, 138, 139, 140, 141, 142, 143, 144, 145, 146, 147, 148, 149, 150, 151, 152, 153] (by decide +kernel) (by decide +kernel)
set_option maxRecDepth 20000 in
theorem gX4_distortion_X0_isAt : GoodIn wsX4_distortion (wsV RX4 139 RX0 yX0_isAt wsX0_isAt) := goodIn_app (goodIn_of _ (by decide +kernel)) ggX4_distortion_X0_isAt
theorem dX4_distortion_0 : decode cX4_distortion 0 = .ok (.iload_n 1, 1) := by decide +kernel
theorem dX4_distortion_1 : decode cX4_distortion 1 = .ok (.invokestatic 132, 3) := by decide +kernel
theorem dX4_distortion_4 : decode cX4_distortion 4 = .ok (.ifCond .ne 7, 3) := by decide +kernel
theorem dX4_distortion_7 : decode cX4_distortion 7 = .ok (.ldc2_w 146, 3) := by decide +kernel
theorem dX4_distortion_10 : decode cX4_distortion 10 = .ok (.lreturn, 1) := by decide +kernel
theorem dX4_distortion_11 : decode cX4_distortion 11 = .ok (.aload_n 0, 1) := by decide +kernel
theorem dX4_distortion_12 : decode cX4_distortion 12 = .ok (.getfield 43, 3) := by decide +kernel
theorem dX4_distortion_15 : decode cX4_distortion 15 = .ok (.iload_n 1, 1) := by decide +kernel
theorem dX4_distortion_16 : decode cX4_distortion 16 = .ok (.invokevirtual 139, 3) := by decide +kernel
theorem dX4_distortion_19 : decode cX4_distortion 19 = .ok (.ifCond .eq 15, 3) := by decide +kernel
theorem dX4_distortion_22 : decode cX4_distortion 22 = .ok (.aload_n 0, 1) := by decide +kernel
theorem dX4_distortion_23 : decode cX4_distortion 23 = .ok (.getfield 43, 3) := by decide +kernel
theorem dX4_distortion_26 : decode cX4_distortion 26 = .ok (.getfield 148, 3) := by decide +kernel
theorem dX4_distortion_29 : decode cX4_distortion 29 = .ok (.iload_n 1, 1) := by decide +kernel
theorem dX4_distortion_30 : decode cX4_distortion 30 = .ok (.laload, 1) := by decide +kernel
theorem dX4_distortion_31 : decode cX4_distortion 31 = .ok (.goto 6, 3) := by decide +kernel
theorem dX4_distortion_34 : decode cX4_distortion 34 = .ok (.ldc2_w 152, 3) := by decide +kernel
theorem dX4_distortion_37 : decode cX4_distortion 37 = .ok (.lreturn, 1) := by decide +kernel
set_option maxRecDepth 20000 in
theorem ggX4_why_X4_isSize : GoodIn wsX4_why wsX4_isSize := goodIn_r _ [9, 10, 11, 8, 12] (by decide +kernel) (by decide +kernel)
set_option maxRecDepth 20000 in
theorem gX4_why_X4_isSize : GoodIn wsX4_why (va_wsS RX4 132 yX4_isSize wsX4_isSize) := goodIn_app (goodIn_of _ (by decide +kernel)) ggX4_why_X4_isSize
set_option maxRecDepth 20000 in
theorem ggX4_why_X4_isWithin : GoodIn wsX4_why wsX4_isWithin := goodIn_r _ [12] (by decide +kernel) (by decide +kernel)
set_option maxRecDepth 20000 in
theorem gX4_why_X4_isWithin : GoodIn wsX4_why (va_wsS RX4 47 yX4_isWithin wsX4_isWithin) := goodIn_app (goodIn_of _ (by decide +kernel)) ggX4_why_X4_isWithin
set_option maxRecDepth 20000 in
theorem ggX4_why_X0_isAt : GoodIn wsX4_why wsX0_isAt := goodIn_r _ [17, 18, 19, 20, 21, 22, 16, 23, 24, 25, 26, 27, 28, 29, 30, 31, 32, 33, 34, 35, 36, 37, 38, 39, 40, 41, 42, 43, 44, 45, 46, 47, 48, 49, 50, 51, 52, 53, 54, 55, 56, 57, 58, 59, 60, 61, 62, 63, 64, 65, 66, 67, 68, 69, 70, 71, 72, 73, 74, 75, 76, 77, 78, 79, 80, 81, 82, 83, 84, 85, 86, 87, 88, 89, 90, 91, 92, 93, 94, 95, 96, 97, 98, 99, 100, 101, 102, 103, 104, 105, 106, 107, 108, 109, 110, 111, 112, 113, 114, 115, 116, 117, 118, 119, 127, 128, 129, 130, 131, 132, 133, 134, 135, 136, 137, 138, 145, 146, 147, 148, 149, 150, 151, 152, 153, 154, 155, 139, 140, 141, 142, 143, 144] (by decide +kernel) (by decide +kernel)
set_option maxRecDepth 20000 in
theorem gX4_why_X0_isAt : GoodIn wsX4_why (wsV RX4 139 RX0 yX0_isAt wsX0_isAt) := goodIn_app (goodIn_of _ (by decide +kernel)) ggX4_why_X0_isAt
set_option maxRecDepth 20000 in
theorem ggX4_why_X3_dotsOfStem : GoodIn wsX4_why wsX3_dotsOfStem := goodIn_r _ [41, 42, 43, 44, 45, 40, 46, 47, 48, 49, 50, 51, 52, 53, 54, 55, 56, 145, 146, 147, 148, 149, 150, 151, 152, 153, 154, 155] (by decide +kernel) (by decide +kernel)
set_option maxRecDepth 20000 in
theorem gX4_why_X3_dotsOfStem : GoodIn wsX4_why (wsV RX4 157 RX3 yX3_dotsOfStem wsX3_dotsOfStem) := goodIn_app (goodIn_of _ (by decide +kernel)) ggX4_why_X3_dotsOfStem
theorem dX4_why_0 : decode cX4_why 0 = .ok (.iload_n 1, 1) := by decide +kernel
theorem dX4_why_1 : decode cX4_why 1 = .ok (.invokestatic 132, 3) := by decide +kernel
theorem dX4_why_4 : decode cX4_why 4 = .ok (.ifCond .eq 12, 3) := by decide +kernel
theorem dX4_why_7 : decode cX4_why 7 = .ok (.iload_n 2, 1) := by decide +kernel
theorem dX4_why_8 : decode cX4_why 8 = .ok (.iconst 0, 1) := by decide +kernel
theorem dX4_why_9 : decode cX4_why 9 = .ok (.iconst 1, 1) := by decide +kernel
theorem dX4_why_10 : decode cX4_why 10 = .ok (.invokestatic 47, 3) := by decide +kernel
theorem dX4_why_13 : decode cX4_why 13 = .ok (.ifCond .ne 6, 3) := by decide +kernel
theorem dX4_why_16 : decode cX4_why 16 = .ok (.bipush (-2), 2) := by decide +kernel
theorem dX4_why_18 : decode cX4_why 18 = .ok (.ireturn, 1) := by decide +kernel
theorem dX4_why_19 : decode cX4_why 19 = .ok (.aload_n 0, 1) := by decide +kernel
theorem dX4_why_20 : decode cX4_why 20 = .ok (.getfield 43, 3) := by decide +kernel
theorem dX4_why_23 : decode cX4_why 23 = .ok (.iload_n 1, 1) := by decide +kernel
theorem dX4_why_24 : decode cX4_why 24 = .ok (.invokevirtual 139, 3) := by decide +kernel
theorem dX4_why_27 : decode cX4_why 27 = .ok (.ifCond .eq 14, 3) := by decide +kernel
theorem dX4_why_30 : decode cX4_why 30 = .ok (.iload_n 2, 1) := by decide +kernel
theorem dX4_why_31 : decode cX4_why 31 = .ok (.ifCond .ne 7, 3) := by decide +kernel
theorem dX4_why_34 : decode cX4_why 34 = .ok (.iconst 0, 1) := by decide +kernel
theorem dX4_why_35 : decode cX4_why 35 = .ok (.goto 5, 3) := by decide +kernel
theorem dX4_why_38 : decode cX4_why 38 = .ok (.bipush (-6), 2) := by decide +kernel
theorem dX4_why_40 : decode cX4_why 40 = .ok (.ireturn, 1) := by decide +kernel
theorem dX4_why_41 : decode cX4_why 41 = .ok (.aload_n 0, 1) := by decide +kernel
theorem dX4_why_42 : decode cX4_why 42 = .ok (.getfield 43, 3) := by decide +kernel
theorem dX4_why_45 : decode cX4_why 45 = .ok (.getfield 154, 3) := by decide +kernel
theorem dX4_why_48 : decode cX4_why 48 = .ok (.iload_n 1, 1) := by decide +kernel
theorem dX4_why_49 : decode cX4_why 49 = .ok (.iaload, 1) := by decide +kernel
theorem dX4_why_50 : decode cX4_why 50 = .ok (.istore_n 3, 1) := by decide +kernel
theorem dX4_why_51 : decode cX4_why 51 = .ok (.iload_n 2, 1) := by decide +kernel
theorem dX4_why_52 : decode cX4_why 52 = .ok (.iconst 1, 1) := by decide +kernel
theorem dX4_why_53 : decode cX4_why 53 = .ok (.if_icmp .ne 5, 3) := by decide +kernel
theorem dX4_why_56 : decode cX4_why 56 = .ok (.iload_n 3, 1) := by decide +kernel
theorem dX4_why_57 : decode cX4_why 57 = .ok (.ireturn, 1) := by decide +kernel
theorem dX4_why_58 : decode cX4_why 58 = .ok (.aload_n 0, 1) := by decide +kernel
theorem dX4_why_59 : decode cX4_why 59 = .ok (.getfield 34, 3) := by decide +kernel
theorem dX4_why_62 : decode cX4_why 62 = .ok (.iload_n 3, 1) := by decide +kernel
theorem dX4_why_63 : decode cX4_why 63 = .ok (.iload_n 1, 1) := by decide +kernel
theorem dX4_why_64 : decode cX4_why 64 = .ok (.aload_n 0, 1) := by decide +kernel
theorem dX4_why_65 : decode cX4_why 65 = .ok (.getfield 19, 3) := by decide +kernel
theorem dX4_why_68 : decode cX4_why 68 = .ok (.getfield 99, 3) := by decide +kernel
theorem dX4_why_71 : decode cX4_why 71 = .ok (.iconst 4, 1) := by decide +kernel
theorem dX4_why_72 : decode cX4_why 72 = .ok (.iaload, 1) := by decide +kernel
theorem dX4_why_73 : decode cX4_why 73 = .ok (.invokevirtual 157, 3) := by decide +kernel
theorem dX4_why_76 : decode cX4_why 76 = .ok (.iload_n 1, 1) := by decide +kernel
theorem dX4_why_77 : decode cX4_why 77 = .ok (.if_icmp .le 7, 3) := by decide +kernel
theorem dX4_why_80 : decode cX4_why 80 = .ok (.iconst 1, 1) := by decide +kernel
theorem dX4_why_81 : decode cX4_why 81 = .ok (.goto 4, 3) := by decide +kernel
theorem dX4_why_84 : decode cX4_why 84 = .ok (.iconst 2, 1) := by decide +kernel
theorem dX4_why_85 : decode cX4_why 85 = .ok (.ireturn, 1) := by decide +kernel
set_option maxRecDepth 20000 in
theorem ggX4_best_X4_isSize : GoodIn wsX4_best wsX4_isSize := goodIn_r _ [6, 7, 8, 5, 9] (by decide +kernel) (by decide +kernel)
set_option maxRecDepth 20000 in
theorem gX4_best_X4_isSize : GoodIn wsX4_best (va_wsS RX4 132 yX4_isSize wsX4_isSize) := goodIn_app (goodIn_of _ (by decide +kernel)) ggX4_best_X4_isSize
set_option maxRecDepth 20000 in
theorem ggX4_best_X0_isAt : GoodIn wsX4_best wsX0_isAt := goodIn_r _ [14, 15, 16, 17, 18, 19, 13, 20, 21, 22, 23, 24, 25, 26, 27, 28, 29, 30, 31, 32, 33, 34, 35, 36, 37, 38, 39, 40, 41, 42, 43, 44, 45, 46, 47, 48, 49, 50, 51, 52, 53, 54, 55, 56, 57, 58, 59, 60, 61, 62, 63, 64, 65, 66, 67, 68, 69, 70, 71, 72, 73, 74, 75, 76, 77, 78, 79, 80, 81, 82, 83, 84, 85, 86, 87, 88, 89, 90, 91, 92, 93, 94, 95, 96, 97, 98, 99, 100, 101, 102, 103, 104, 105, 106, 107, 108, 109, 110, 111, 112, 113, 114, 115, 116, 123, 124, 125, 126, 127, 128, 129, 130, 131, 132, 133, 134, 135, 136, 137, 138, 139, 140, 141, 142, 143, 144, 145, 146, 147, 148, 149, 150, 151] (by decide +kernel) (by decide +kernel)
set_option maxRecDepth 20000 in
theorem gX4_best_X0_isAt : GoodIn wsX4_best (wsV RX4 139 RX0 yX0_isAt wsX0_isAt) := goodIn_app (goodIn_of _ (by decide +kernel)) ggX4_best_X0_isAt
theorem dX4_best_0 : decode cX4_best 0 = .ok (.iload_n 1, 1) := by decide +kernel
theorem dX4_best_1 : decode cX4_best 1 = .ok (.invokestatic 132, 3) := by decide +kernel
theorem dX4_best_4 : decode cX4_best 4 = .ok (.ifCond .ne 6, 3) := by decide +kernel
theorem dX4_best_7 : decode cX4_best 7 = .ok (.bipush (-2), 2) := by decide +kernel
theorem dX4_best_9 : decode cX4_best 9 = .ok (.ireturn, 1) := by decide +kernel
theorem dX4_best_10 : decode cX4_best 10 = .ok (.bipush (-6), 2) := by decide +kernel
theorem dX4_best_12 : decode cX4_best 12 = .ok (.istore_n 2, 1) := by decide +kernel
theorem dX4_best_13 : decode cX4_best 13 = .ok (.lconst 0, 1) := by decide +kernel
theorem dX4_best_14 : decode cX4_best 14 = .ok (.lstore_n 3, 1) := by decide +kernel
theorem dX4_best_15 : decode cX4_best 15 = .ok (.iconst 1, 1) := by decide +kernel
theorem dX4_best_16 : decode cX4_best 16 = .ok (.istore 5, 2) := by decide +kernel
theorem dX4_best_18 : decode cX4_best 18 = .ok (.iload 5, 2) := by decide +kernel
theorem dX4_best_20 : decode cX4_best 20 = .ok (.iload_n 1, 1) := by decide +kernel
theorem dX4_best_21 : decode cX4_best 21 = .ok (.if_icmp .gt 62, 3) := by decide +kernel
theorem dX4_best_24 : decode cX4_best 24 = .ok (.aload_n 0, 1) := by decide +kernel
theorem dX4_best_25 : decode cX4_best 25 = .ok (.getfield 43, 3) := by decide +kernel
theorem dX4_best_28 : decode cX4_best 28 = .ok (.iload 5, 2) := by decide +kernel
theorem dX4_best_30 : decode cX4_best 30 = .ok (.invokevirtual 139, 3) := by decide +kernel
theorem dX4_best_33 : decode cX4_best 33 = .ok (.ifCond .ne 6, 3) := by decide +kernel
theorem dX4_best_36 : decode cX4_best 36 = .ok (.goto 41, 3) := by decide +kernel
theorem dX4_best_39 : decode cX4_best 39 = .ok (.aload_n 0, 1) := by decide +kernel
theorem dX4_best_40 : decode cX4_best 40 = .ok (.getfield 43, 3) := by decide +kernel
theorem dX4_best_43 : decode cX4_best 43 = .ok (.getfield 148, 3) := by decide +kernel
theorem dX4_best_46 : decode cX4_best 46 = .ok (.iload 5, 2) := by decide +kernel
theorem dX4_best_48 : decode cX4_best 48 = .ok (.laload, 1) := by decide +kernel
theorem dX4_best_49 : decode cX4_best 49 = .ok (.lstore 6, 2) := by decide +kernel
theorem dX4_best_51 : decode cX4_best 51 = .ok (.iload_n 2, 1) := by decide +kernel
theorem dX4_best_52 : decode cX4_best 52 = .ok (.bipush (-6), 2) := by decide +kernel
theorem dX4_best_54 : decode cX4_best 54 = .ok (.if_icmp .eq 17, 3) := by decide +kernel
theorem dX4_best_57 : decode cX4_best 57 = .ok (.lload 6, 2) := by decide +kernel
theorem dX4_best_59 : decode cX4_best 59 = .ok (.iload_n 2, 1) := by decide +kernel
theorem dX4_best_60 : decode cX4_best 60 = .ok (.i2l, 1) := by decide +kernel
theorem dX4_best_61 : decode cX4_best 61 = .ok (.lmul, 1) := by decide +kernel
theorem dX4_best_62 : decode cX4_best 62 = .ok (.lload_n 3, 1) := by decide +kernel
theorem dX4_best_63 : decode cX4_best 63 = .ok (.iload 5, 2) := by decide +kernel
theorem dX4_best_65 : decode cX4_best 65 = .ok (.i2l, 1) := by decide +kernel
theorem dX4_best_66 : decode cX4_best 66 = .ok (.lmul, 1) := by decide +kernel
theorem dX4_best_67 : decode cX4_best 67 = .ok (.lcmp, 1) := by decide +kernel
theorem dX4_best_68 : decode cX4_best 68 = .ok (.ifCond .gt 9, 3) := by decide +kernel
theorem dX4_best_71 : decode cX4_best 71 = .ok (.iload 5, 2) := by decide +kernel
theorem dX4_best_73 : decode cX4_best 73 = .ok (.istore_n 2, 1) := by decide +kernel
theorem dX4_best_74 : decode cX4_best 74 = .ok (.lload 6, 2) := by decide +kernel
theorem dX4_best_76 : decode cX4_best 76 = .ok (.lstore_n 3, 1) := by decide +kernel
theorem dX4_best_77 : decode cX4_best 77 = .ok (.iinc 5 1, 3) := by decide +kernel
theorem dX4_best_80 : decode cX4_best 80 = .ok (.goto (-62), 3) := by decide +kernel
theorem dX4_best_83 : decode cX4_best 83 = .ok (.iload_n 2, 1) := by decide +kernel
theorem dX4_best_84 : decode cX4_best 84 = .ok (.ireturn, 1) := by decide +kernel
set_option maxRecDepth 20000 in
theorem ggX4_place_X4_isSize : GoodIn wsX4_place wsX4_isSize := goodIn_r _ [7, 8, 9, 6, 10] (by decide +kernel) (by decide +kernel)
set_option maxRecDepth 20000 in
theorem gX4_place_X4_isSize : GoodIn wsX4_place (va_wsS RX4 132 yX4_isSize wsX4_isSize) := goodIn_app (goodIn_of _ (by decide +kernel)) ggX4_place_X4_isSize
set_option maxRecDepth 20000 in
theorem ggX4_place_X4_isWithin : GoodIn wsX4_place wsX4_isWithin := goodIn_r _ [10] (by decide +kernel) (by decide +kernel)
set_option maxRecDepth 20000 in
theorem gX4_place_X4_isWithin : GoodIn wsX4_place (va_wsS RX4 47 yX4_isWithin wsX4_isWithin) := goodIn_app (goodIn_of _ (by decide +kernel)) ggX4_place_X4_isWithin
set_option maxRecDepth 20000 in
theorem ggX4_place_X0_isAt : GoodIn wsX4_place wsX0_isAt := goodIn_r _ [15, 16, 17, 18, 19, 20, 14, 21, 22, 23, 24, 25, 26, 27, 28, 29, 30, 31, 32, 33, 34, 35, 36, 37, 38, 39, 40, 41, 42, 43, 44, 45, 46, 47, 48, 49, 50, 51, 52, 53, 54, 55, 56, 57, 58, 59, 60, 61, 62, 63, 64, 65, 66, 67, 68, 69, 70, 71, 72, 73, 74, 75, 76, 77, 78, 79, 80, 81, 82, 83, 84, 85, 86, 87, 88, 89, 90, 91, 92, 93, 94, 95, 96, 97, 98, 99, 100, 101, 102, 103, 104, 105, 106, 107, 108, 109, 110, 111, 112, 113, 114, 115, 116, 117, 132, 133, 134, 135, 136, 137, 138, 139, 140, 141, 142, 143, 144, 145, 146, 147, 148, 149, 150, 151, 152, 153, 154, 155, 156, 157, 158, 159, 160] (by decide +kernel) (by decide +kernel)
set_option maxRecDepth 20000 in
theorem gX4_place_X0_isAt : GoodIn wsX4_place (wsV RX4 139 RX0 yX0_isAt wsX0_isAt) := goodIn_app (goodIn_of _ (by decide +kernel)) ggX4_place_X0_isAt
set_option maxRecDepth 20000 in
theorem ggX4_place_X0_drawn : GoodIn wsX4_place wsX0_drawn := goodIn_r _ [121, 24, 25, 69, 70, 32, 33, 122, 123, 124, 14, 125, 109, 35, 36, 37, 38, 39, 40, 41, 42, 43, 44, 45, 46, 47, 48, 49, 50, 51, 52, 53, 54, 132, 133, 134, 135, 136, 137, 138, 139, 140, 141, 142, 143, 144, 145, 146, 147, 148, 149, 150, 151, 152, 153, 154, 155, 156, 157, 158, 159, 160] (by decide +kernel) (by decide +kernel)
set_option maxRecDepth 20000 in
theorem gX4_place_X0_drawn : GoodIn wsX4_place (wsV RX4 161 RX0 yX0_drawn wsX0_drawn) := goodIn_app (goodIn_of _ (by decide +kernel)) ggX4_place_X0_drawn
theorem dX4_place_0 : decode cX4_place 0 = .ok (.iload_n 1, 1) := by decide +kernel
theorem dX4_place_1 : decode cX4_place 1 = .ok (.invokestatic 132, 3) := by decide +kernel
theorem dX4_place_4 : decode cX4_place 4 = .ok (.ifCond .eq 14, 3) := by decide +kernel
theorem dX4_place_7 : decode cX4_place 7 = .ok (.iload_n 2, 1) := by decide +kernel
theorem dX4_place_8 : decode cX4_place 8 = .ok (.iconst 0, 1) := by decide +kernel
theorem dX4_place_9 : decode cX4_place 9 = .ok (.sipush 999, 3) := by decide +kernel
theorem dX4_place_12 : decode cX4_place 12 = .ok (.invokestatic 47, 3) := by decide +kernel
theorem dX4_place_15 : decode cX4_place 15 = .ok (.ifCond .ne 6, 3) := by decide +kernel
theorem dX4_place_18 : decode cX4_place 18 = .ok (.ldc 160, 2) := by decide +kernel
theorem dX4_place_20 : decode cX4_place 20 = .ok (.ireturn, 1) := by decide +kernel
theorem dX4_place_21 : decode cX4_place 21 = .ok (.aload_n 0, 1) := by decide +kernel
theorem dX4_place_22 : decode cX4_place 22 = .ok (.getfield 43, 3) := by decide +kernel
theorem dX4_place_25 : decode cX4_place 25 = .ok (.iload_n 1, 1) := by decide +kernel
theorem dX4_place_26 : decode cX4_place 26 = .ok (.invokevirtual 139, 3) := by decide +kernel
theorem dX4_place_29 : decode cX4_place 29 = .ok (.ifCond .eq 15, 3) := by decide +kernel
theorem dX4_place_32 : decode cX4_place 32 = .ok (.aload_n 0, 1) := by decide +kernel
theorem dX4_place_33 : decode cX4_place 33 = .ok (.getfield 43, 3) := by decide +kernel
theorem dX4_place_36 : decode cX4_place 36 = .ok (.iload_n 1, 1) := by decide +kernel
theorem dX4_place_37 : decode cX4_place 37 = .ok (.iload_n 2, 1) := by decide +kernel
theorem dX4_place_38 : decode cX4_place 38 = .ok (.invokevirtual 161, 3) := by decide +kernel
theorem dX4_place_41 : decode cX4_place 41 = .ok (.goto 5, 3) := by decide +kernel
theorem dX4_place_44 : decode cX4_place 44 = .ok (.ldc 164, 2) := by decide +kernel
theorem dX4_place_46 : decode cX4_place 46 = .ok (.ireturn, 1) := by decide +kernel
set_option maxRecDepth 20000 in
theorem ggX4_image_X4_isWithin : GoodIn wsX4_image wsX4_isWithin := goodIn_r _ [7] (by decide +kernel) (by decide +kernel)
set_option maxRecDepth 20000 in
theorem gX4_image_X4_isWithin : GoodIn wsX4_image (va_wsS RX4 47 yX4_isWithin wsX4_isWithin) := goodIn_app (goodIn_of _ (by decide +kernel)) ggX4_image_X4_isWithin
set_option maxRecDepth 20000 in
theorem ggX4_image_X1_take : GoodIn wsX4_image wsX1_take := goodIn_r _ [12, 13, 14, 15, 16, 17, 18, 19, 20, 21, 22, 29, 30, 31, 32, 33, 34] (by decide +kernel) (by decide +kernel)
set_option maxRecDepth 20000 in
theorem gX4_image_X1_take : GoodIn wsX4_image (wsV RX4 165 RX1 yX1_take wsX1_take) := goodIn_app (goodIn_of _ (by decide +kernel)) ggX4_image_X1_take
theorem dX4_image_0 : decode cX4_image 0 = .ok (.iload_n 1, 1) := by decide +kernel
theorem dX4_image_1 : decode cX4_image 1 = .ok (.iconst 0, 1) := by decide +kernel
theorem dX4_image_2 : decode cX4_image 2 = .ok (.iconst 1, 1) := by decide +kernel
theorem dX4_image_3 : decode cX4_image 3 = .ok (.invokestatic 47, 3) := by decide +kernel
theorem dX4_image_6 : decode cX4_image 6 = .ok (.ifCond .ne 6, 3) := by decide +kernel
theorem dX4_image_9 : decode cX4_image 9 = .ok (.bipush (-2), 2) := by decide +kernel
theorem dX4_image_11 : decode cX4_image 11 = .ok (.ireturn, 1) := by decide +kernel
theorem dX4_image_12 : decode cX4_image 12 = .ok (.aload_n 0, 1) := by decide +kernel
theorem dX4_image_13 : decode cX4_image 13 = .ok (.getfield 23, 3) := by decide +kernel
theorem dX4_image_16 : decode cX4_image 16 = .ok (.iload_n 1, 1) := by decide +kernel
theorem dX4_image_17 : decode cX4_image 17 = .ok (.aaload, 1) := by decide +kernel
theorem dX4_image_18 : decode cX4_image 18 = .ok (.aload_n 0, 1) := by decide +kernel
theorem dX4_image_19 : decode cX4_image 19 = .ok (.getfield 19, 3) := by decide +kernel
theorem dX4_image_22 : decode cX4_image 22 = .ok (.invokevirtual 165, 3) := by decide +kernel
theorem dX4_image_25 : decode cX4_image 25 = .ok (.aload_n 0, 1) := by decide +kernel
theorem dX4_image_26 : decode cX4_image 26 = .ok (.getfield 27, 3) := by decide +kernel
theorem dX4_image_29 : decode cX4_image 29 = .ok (.iload_n 1, 1) := by decide +kernel
theorem dX4_image_30 : decode cX4_image 30 = .ok (.iconst 1, 1) := by decide +kernel
theorem dX4_image_31 : decode cX4_image 31 = .ok (.bastore, 1) := by decide +kernel
theorem dX4_image_32 : decode cX4_image 32 = .ok (.iconst 1, 1) := by decide +kernel
theorem dX4_image_33 : decode cX4_image 33 = .ok (.ireturn, 1) := by decide +kernel
set_option maxRecDepth 20000 in
theorem ggX4_restore_X4_isWithin : GoodIn wsX4_restore wsX4_isWithin := goodIn_r _ [7] (by decide +kernel) (by decide +kernel)
set_option maxRecDepth 20000 in
theorem gX4_restore_X4_isWithin : GoodIn wsX4_restore (va_wsS RX4 47 yX4_isWithin wsX4_isWithin) := goodIn_app (goodIn_of _ (by decide +kernel)) ggX4_restore_X4_isWithin
set_option maxRecDepth 20000 in
theorem ggX4_restore_X1_take : GoodIn wsX4_restore wsX1_take := goodIn_r _ [12, 13, 14, 15, 16, 17, 18, 19, 20, 21, 22, 98, 99, 100, 101, 102, 103] (by decide +kernel) (by decide +kernel)
set_option maxRecDepth 20000 in
theorem gX4_restore_X1_take : GoodIn wsX4_restore (wsV RX4 165 RX1 yX1_take wsX1_take) := goodIn_app (goodIn_of _ (by decide +kernel)) ggX4_restore_X1_take
set_option maxRecDepth 20000 in
theorem ggX4_restore_X4_renew : GoodIn wsX4_restore wsX4_renew := goodIn_r _ [26, 27, 2, 28, 29, 30, 31, 32, 33, 34, 35, 36, 37, 38, 39, 40, 41, 42, 43, 44, 11, 45, 13, 18, 20, 46, 47, 48, 49, 19, 50, 51, 52, 5, 6, 7, 53, 54, 55, 56, 57, 58, 59, 60, 61, 62, 63, 64, 65, 66, 67, 68, 69, 70, 71, 72, 73, 74, 75, 76, 77, 78, 79, 80, 81, 82, 83, 84, 85, 86, 87, 88, 89, 90, 91, 92, 93, 94, 95, 96, 97, 104, 105, 106, 107, 108, 109, 110, 111, 112, 113, 114, 98, 99, 100, 101, 102, 103, 115, 116, 117, 118, 119, 120, 121, 122, 123, 124, 125, 126] (by decide +kernel) (by decide +kernel)
set_option maxRecDepth 20000 in
theorem gX4_restore_X4_renew : GoodIn wsX4_restore (wsV RX4 69 RX4 yX4_renew wsX4_renew) := goodIn_app (goodIn_of _ (by decide +kernel)) ggX4_restore_X4_renew
theorem dX4_restore_0 : decode cX4_restore 0 = .ok (.iload_n 1, 1) := by decide +kernel
theorem dX4_restore_1 : decode cX4_restore 1 = .ok (.iconst 0, 1) := by decide +kernel
theorem dX4_restore_2 : decode cX4_restore 2 = .ok (.iconst 1, 1) := by decide +kernel
theorem dX4_restore_3 : decode cX4_restore 3 = .ok (.invokestatic 47, 3) := by decide +kernel
theorem dX4_restore_6 : decode cX4_restore 6 = .ok (.ifCond .ne 6, 3) := by decide +kernel
theorem dX4_restore_9 : decode cX4_restore 9 = .ok (.bipush (-2), 2) := by decide +kernel
theorem dX4_restore_11 : decode cX4_restore 11 = .ok (.ireturn, 1) := by decide +kernel
theorem dX4_restore_12 : decode cX4_restore 12 = .ok (.aload_n 0, 1) := by decide +kernel
theorem dX4_restore_13 : decode cX4_restore 13 = .ok (.getfield 27, 3) := by decide +kernel
theorem dX4_restore_16 : decode cX4_restore 16 = .ok (.iload_n 1, 1) := by decide +kernel
theorem dX4_restore_17 : decode cX4_restore 17 = .ok (.baload, 1) := by decide +kernel
theorem dX4_restore_18 : decode cX4_restore 18 = .ok (.ifCond .ne 6, 3) := by decide +kernel
theorem dX4_restore_21 : decode cX4_restore 21 = .ok (.bipush (-3), 2) := by decide +kernel
theorem dX4_restore_23 : decode cX4_restore 23 = .ok (.ireturn, 1) := by decide +kernel
theorem dX4_restore_24 : decode cX4_restore 24 = .ok (.aload_n 0, 1) := by decide +kernel
theorem dX4_restore_25 : decode cX4_restore 25 = .ok (.getfield 19, 3) := by decide +kernel
theorem dX4_restore_28 : decode cX4_restore 28 = .ok (.aload_n 0, 1) := by decide +kernel
theorem dX4_restore_29 : decode cX4_restore 29 = .ok (.getfield 23, 3) := by decide +kernel
theorem dX4_restore_32 : decode cX4_restore 32 = .ok (.iload_n 1, 1) := by decide +kernel
theorem dX4_restore_33 : decode cX4_restore 33 = .ok (.aaload, 1) := by decide +kernel
theorem dX4_restore_34 : decode cX4_restore 34 = .ok (.invokevirtual 165, 3) := by decide +kernel
theorem dX4_restore_37 : decode cX4_restore 37 = .ok (.aload_n 0, 1) := by decide +kernel
theorem dX4_restore_38 : decode cX4_restore 38 = .ok (.invokevirtual 69, 3) := by decide +kernel
theorem dX4_restore_41 : decode cX4_restore 41 = .ok (.iconst 1, 1) := by decide +kernel
theorem dX4_restore_42 : decode cX4_restore 42 = .ok (.ireturn, 1) := by decide +kernel
set_option maxRecDepth 20000 in
theorem ggX4_count_X4_isWithin : GoodIn wsX4_count wsX4_isWithin := goodIn_r _ [12] (by decide +kernel) (by decide +kernel)
set_option maxRecDepth 20000 in
theorem gX4_count_X4_isWithin : GoodIn wsX4_count (va_wsS RX4 47 yX4_isWithin wsX4_isWithin) := goodIn_app (goodIn_of _ (by decide +kernel)) ggX4_count_X4_isWithin
theorem dX4_count_0 : decode cX4_count 0 = .ok (.iload_n 1, 1) := by decide +kernel
theorem dX4_count_1 : decode cX4_count 1 = .ok (.tableswitch 63 0 3 #[31, 39, 47, 55], 31) := by decide +kernel
theorem dX4_count_32 : decode cX4_count 32 = .ok (.aload_n 0, 1) := by decide +kernel
theorem dX4_count_33 : decode cX4_count 33 = .ok (.getfield 10, 3) := by decide +kernel
theorem dX4_count_36 : decode cX4_count 36 = .ok (.getfield 55, 3) := by decide +kernel
theorem dX4_count_39 : decode cX4_count 39 = .ok (.ireturn, 1) := by decide +kernel
theorem dX4_count_40 : decode cX4_count 40 = .ok (.aload_n 0, 1) := by decide +kernel
theorem dX4_count_41 : decode cX4_count 41 = .ok (.getfield 19, 3) := by decide +kernel
theorem dX4_count_44 : decode cX4_count 44 = .ok (.getfield 72, 3) := by decide +kernel
theorem dX4_count_47 : decode cX4_count 47 = .ok (.ireturn, 1) := by decide +kernel
theorem dX4_count_48 : decode cX4_count 48 = .ok (.aload_n 0, 1) := by decide +kernel
theorem dX4_count_49 : decode cX4_count 49 = .ok (.getfield 34, 3) := by decide +kernel
theorem dX4_count_52 : decode cX4_count 52 = .ok (.getfield 102, 3) := by decide +kernel
theorem dX4_count_55 : decode cX4_count 55 = .ok (.ireturn, 1) := by decide +kernel
theorem dX4_count_56 : decode cX4_count 56 = .ok (.aload_n 0, 1) := by decide +kernel
theorem dX4_count_57 : decode cX4_count 57 = .ok (.getfield 34, 3) := by decide +kernel
theorem dX4_count_60 : decode cX4_count 60 = .ok (.getfield 120, 3) := by decide +kernel
theorem dX4_count_63 : decode cX4_count 63 = .ok (.ireturn, 1) := by decide +kernel
theorem dX4_count_64 : decode cX4_count 64 = .ok (.iload_n 1, 1) := by decide +kernel
theorem dX4_count_65 : decode cX4_count 65 = .ok (.iconst 4, 1) := by decide +kernel
theorem dX4_count_66 : decode cX4_count 66 = .ok (.bipush 8, 2) := by decide +kernel
theorem dX4_count_68 : decode cX4_count 68 = .ok (.invokestatic 47, 3) := by decide +kernel
theorem dX4_count_71 : decode cX4_count 71 = .ok (.ifCond .eq 17, 3) := by decide +kernel
theorem dX4_count_74 : decode cX4_count 74 = .ok (.aload_n 0, 1) := by decide +kernel
theorem dX4_count_75 : decode cX4_count 75 = .ok (.getfield 19, 3) := by decide +kernel
theorem dX4_count_78 : decode cX4_count 78 = .ok (.getfield 99, 3) := by decide +kernel
theorem dX4_count_81 : decode cX4_count 81 = .ok (.iload_n 1, 1) := by decide +kernel
theorem dX4_count_82 : decode cX4_count 82 = .ok (.iconst 4, 1) := by decide +kernel
theorem dX4_count_83 : decode cX4_count 83 = .ok (.isub, 1) := by decide +kernel
theorem dX4_count_84 : decode cX4_count 84 = .ok (.iaload, 1) := by decide +kernel
theorem dX4_count_85 : decode cX4_count 85 = .ok (.goto 5, 3) := by decide +kernel
theorem dX4_count_88 : decode cX4_count 88 = .ok (.bipush (-2), 2) := by decide +kernel
theorem dX4_count_90 : decode cX4_count 90 = .ok (.ireturn, 1) := by decide +kernel
set_option maxRecDepth 20000 in
theorem ggX4_renew_X3_find : GoodIn wsX4_renew wsX3_find := goodIn_r _ [8, 9, 10, 11, 12, 13, 7, 14, 15, 16, 17, 18, 19, 20, 21, 22, 23, 24, 25, 26, 27, 28, 29, 30, 31, 32, 33, 34, 35, 36, 37, 38, 39, 40, 41, 42, 43, 44, 45, 46, 47, 48, 49, 50, 51, 52, 53, 54, 55, 56, 57, 58, 59, 60, 61, 62, 63, 64, 65, 66, 67, 68, 81, 82, 83, 84, 85, 86, 87, 88, 89, 90, 91, 92, 93, 94, 95, 96, 97] (by decide +kernel) (by decide +kernel)
set_option maxRecDepth 20000 in
theorem gX4_renew_X3_find : GoodIn wsX4_renew (wsV RX4 169 RX3 yX3_find wsX3_find) := goodIn_app (goodIn_of _ (by decide +kernel)) ggX4_renew_X3_find
set_option maxRecDepth 20000 in
theorem ggX4_renew_X0_forget : GoodIn wsX4_renew wsX0_forget := goodIn_r _ [73, 74, 98, 99, 100, 101, 102, 103, 104, 105, 106, 107, 108, 109] (by decide +kernel) (by decide +kernel)
set_option maxRecDepth 20000 in
theorem gX4_renew_X0_forget : GoodIn wsX4_renew (wsV RX4 172 RX0 yX0_forget wsX0_forget) := goodIn_app (goodIn_of _ (by decide +kernel)) ggX4_renew_X0_forget
theorem dX4_renew_0 : decode cX4_renew 0 = .ok (.aload_n 0, 1) := by decide +kernel
theorem dX4_renew_1 : decode cX4_renew 1 = .ok (.getfield 34, 3) := by decide +kernel
theorem dX4_renew_4 : decode cX4_renew 4 = .ok (.aload_n 0, 1) := by decide +kernel
theorem dX4_renew_5 : decode cX4_renew 5 = .ok (.getfield 19, 3) := by decide +kernel
theorem dX4_renew_8 : decode cX4_renew 8 = .ok (.invokevirtual 169, 3) := by decide +kernel
theorem dX4_renew_11 : decode cX4_renew 11 = .ok (.aload_n 0, 1) := by decide +kernel
theorem dX4_renew_12 : decode cX4_renew 12 = .ok (.getfield 43, 3) := by decide +kernel
theorem dX4_renew_15 : decode cX4_renew 15 = .ok (.invokevirtual 172, 3) := by decide +kernel
theorem dX4_renew_18 : decode cX4_renew 18 = .ok (.return_, 1) := by decide +kernel
theorem dX4_isWithin_0 : decode cX4_isWithin 0 = .ok (.iload_n 0, 1) := by decide +kernel
theorem dX4_isWithin_1 : decode cX4_isWithin 1 = .ok (.iload_n 1, 1) := by decide +kernel
theorem dX4_isWithin_2 : decode cX4_isWithin 2 = .ok (.if_icmp .lt 12, 3) := by decide +kernel
theorem dX4_isWithin_5 : decode cX4_isWithin 5 = .ok (.iload_n 0, 1) := by decide +kernel
theorem dX4_isWithin_6 : decode cX4_isWithin 6 = .ok (.iload_n 2, 1) := by decide +kernel
theorem dX4_isWithin_7 : decode cX4_isWithin 7 = .ok (.if_icmp .gt 7, 3) := by decide +kernel
theorem dX4_isWithin_10 : decode cX4_isWithin 10 = .ok (.iconst 1, 1) := by decide +kernel
theorem dX4_isWithin_11 : decode cX4_isWithin 11 = .ok (.goto 4, 3) := by decide +kernel
theorem dX4_isWithin_14 : decode cX4_isWithin 14 = .ok (.iconst 0, 1) := by decide +kernel
theorem dX4_isWithin_15 : decode cX4_isWithin 15 = .ok (.ireturn, 1) := by decide +kernel
set_option maxRecDepth 20000 in
theorem ggX4_isSize_X4_isWithin : GoodIn wsX4_isSize wsX4_isWithin := goodIn_r _ [4] (by decide +kernel) (by decide +kernel)
set_option maxRecDepth 20000 in
theorem gX4_isSize_X4_isWithin : GoodIn wsX4_isSize (va_wsS RX4 47 yX4_isWithin wsX4_isWithin) := goodIn_app (goodIn_of _ (by decide +kernel)) ggX4_isSize_X4_isWithin
theorem dX4_isSize_0 : decode cX4_isSize 0 = .ok (.iload_n 0, 1) := by decide +kernel
theorem dX4_isSize_1 : decode cX4_isSize 1 = .ok (.iconst 1, 1) := by decide +kernel
theorem dX4_isSize_2 : decode cX4_isSize 2 = .ok (.bipush 60, 2) := by decide +kernel
theorem dX4_isSize_4 : decode cX4_isSize 4 = .ok (.invokestatic 47, 3) := by decide +kernel
theorem dX4_isSize_7 : decode cX4_isSize 7 = .ok (.ireturn, 1) := by decide +kernel

