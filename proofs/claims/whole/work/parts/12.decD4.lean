set_option maxRecDepth 20000 in
theorem ggX5_distortion_X5_layFit : GoodIn wsX5_distortion wsX5_layFit := goodIn_r _ [11, 12, 13, 14, 2, 15, 16, 17, 18, 19, 20, 6, 21, 22, 23, 24, 25, 26, 27, 28, 29, 30, 31, 32, 33, 34, 35, 36, 37, 38, 39, 40, 41, 42, 43, 44, 45, 46, 47, 48, 49, 50, 51, 52, 53, 54, 55, 56, 57, 58, 59, 60, 61, 62, 1, 63, 64, 65, 66, 67, 68, 69, 70, 71, 72, 73, 74, 75, 76, 77, 78, 79, 80, 81, 82, 83, 84, 85, 86, 87, 88, 89, 90, 91, 92, 93, 94, 95, 96, 97, 98] rfl (by decide +kernel)
set_option maxRecDepth 20000 in
theorem gX5_distortion_X5_layFit : GoodIn wsX5_distortion (wsV RX5 143 RX5 yX5_layFit wsX5_layFit) := goodIn_app (goodIn_of _ (by decide +kernel)) ggX5_distortion_X5_layFit
theorem dX5_distortion_0 : decode cX5_distortion 0 = .ok (.iload_n 1, 1) := by decide +kernel
theorem dX5_distortion_1 : decode cX5_distortion 1 = .ok (.iconst 1, 1) := by decide +kernel
theorem dX5_distortion_2 : decode cX5_distortion 2 = .ok (.bipush 60, 2) := by decide +kernel
theorem dX5_distortion_4 : decode cX5_distortion 4 = .ok (.invokestatic 66, 3) := by decide +kernel
theorem dX5_distortion_7 : decode cX5_distortion 7 = .ok (.ifCond .ne 7, 3) := by decide +kernel
theorem dX5_distortion_10 : decode cX5_distortion 10 = .ok (.ldc2_w 121, 3) := by decide +kernel
theorem dX5_distortion_13 : decode cX5_distortion 13 = .ok (.lreturn, 1) := by decide +kernel
theorem dX5_distortion_14 : decode cX5_distortion 14 = .ok (.aload_n 0, 1) := by decide +kernel
theorem dX5_distortion_15 : decode cX5_distortion 15 = .ok (.iload_n 1, 1) := by decide +kernel
theorem dX5_distortion_16 : decode cX5_distortion 16 = .ok (.invokevirtual 143, 3) := by decide +kernel
theorem dX5_distortion_19 : decode cX5_distortion 19 = .ok (.ifCond .eq 10, 3) := by decide +kernel
theorem dX5_distortion_22 : decode cX5_distortion 22 = .ok (.aload_n 0, 1) := by decide +kernel
theorem dX5_distortion_23 : decode cX5_distortion 23 = .ok (.getfield 125, 3) := by decide +kernel
theorem dX5_distortion_26 : decode cX5_distortion 26 = .ok (.goto 6, 3) := by decide +kernel
theorem dX5_distortion_29 : decode cX5_distortion 29 = .ok (.ldc2_w 146, 3) := by decide +kernel
theorem dX5_distortion_32 : decode cX5_distortion 32 = .ok (.lreturn, 1) := by decide +kernel
set_option maxRecDepth 20000 in
theorem ggX5_why_X5_in : GoodIn wsX5_why wsX5_in := goodIn_r _ [6] (by decide +kernel) (by decide +kernel)
set_option maxRecDepth 20000 in
theorem gX5_why_X5_in : GoodIn wsX5_why (va_wsS RX5 66 yX5_in wsX5_in) := goodIn_app (goodIn_of _ (by decide +kernel)) ggX5_why_X5_in
set_option maxRecDepth 20000 in
theorem ggX5_why_X5_layStems : GoodIn wsX5_why wsX5_layStems := goodIn_r _ [10, 1, 11, 12, 13, 14, 15, 16, 17, 18, 19, 5, 20, 21, 22, 23, 24, 25, 26, 27, 28, 29, 30, 31, 32, 33, 34, 2, 35, 36, 37, 38, 39, 40, 41, 42, 47, 48, 49, 50, 51, 52, 53, 54, 55, 56, 57, 58, 59, 60, 61, 62, 63, 64, 65, 66, 67, 68, 69] (by decide +kernel) (by decide +kernel)
set_option maxRecDepth 20000 in
theorem gX5_why_X5_layStems : GoodIn wsX5_why (wsV RX5 108 RX5 yX5_layStems wsX5_layStems) := goodIn_app (goodIn_of _ (by decide +kernel)) ggX5_why_X5_layStems
set_option maxRecDepth 20000 in
theorem ggX5_why_X5_dotsOf : GoodIn wsX5_why wsX5_dotsOf := goodIn_r _ [46, 38, 37, 36, 47, 48, 49, 50, 51, 52, 53, 54, 55, 56, 57, 58, 59, 60, 61, 62, 63, 64, 65, 66, 67, 68, 69] (by decide +kernel) (by decide +kernel)
set_option maxRecDepth 20000 in
theorem gX5_why_X5_dotsOf : GoodIn wsX5_why (wsV RX5 111 RX5 yX5_dotsOf wsX5_dotsOf) := goodIn_app (goodIn_of _ (by decide +kernel)) ggX5_why_X5_dotsOf
theorem dX5_why_0 : decode cX5_why 0 = .ok (.iload_n 1, 1) := by decide +kernel
theorem dX5_why_1 : decode cX5_why 1 = .ok (.iconst 1, 1) := by decide +kernel
theorem dX5_why_2 : decode cX5_why 2 = .ok (.bipush 60, 2) := by decide +kernel
theorem dX5_why_4 : decode cX5_why 4 = .ok (.invokestatic 66, 3) := by decide +kernel
theorem dX5_why_7 : decode cX5_why 7 = .ok (.ifCond .eq 12, 3) := by decide +kernel
theorem dX5_why_10 : decode cX5_why 10 = .ok (.iload_n 2, 1) := by decide +kernel
theorem dX5_why_11 : decode cX5_why 11 = .ok (.iconst 0, 1) := by decide +kernel
theorem dX5_why_12 : decode cX5_why 12 = .ok (.iconst 1, 1) := by decide +kernel
theorem dX5_why_13 : decode cX5_why 13 = .ok (.invokestatic 66, 3) := by decide +kernel
theorem dX5_why_16 : decode cX5_why 16 = .ok (.ifCond .ne 6, 3) := by decide +kernel
theorem dX5_why_19 : decode cX5_why 19 = .ok (.bipush (-2), 2) := by decide +kernel
theorem dX5_why_21 : decode cX5_why 21 = .ok (.ireturn, 1) := by decide +kernel
theorem dX5_why_22 : decode cX5_why 22 = .ok (.aload_n 0, 1) := by decide +kernel
theorem dX5_why_23 : decode cX5_why 23 = .ok (.invokevirtual 108, 3) := by decide +kernel
theorem dX5_why_26 : decode cX5_why 26 = .ok (.iconst (-1), 1) := by decide +kernel
theorem dX5_why_27 : decode cX5_why 27 = .ok (.istore_n 3, 1) := by decide +kernel
theorem dX5_why_28 : decode cX5_why 28 = .ok (.iconst 0, 1) := by decide +kernel
theorem dX5_why_29 : decode cX5_why 29 = .ok (.istore 4, 2) := by decide +kernel
theorem dX5_why_31 : decode cX5_why 31 = .ok (.iload 4, 2) := by decide +kernel
theorem dX5_why_33 : decode cX5_why 33 = .ok (.aload_n 0, 1) := by decide +kernel
theorem dX5_why_34 : decode cX5_why 34 = .ok (.getfield 89, 3) := by decide +kernel
theorem dX5_why_37 : decode cX5_why 37 = .ok (.if_icmp .ge 62, 3) := by decide +kernel
theorem dX5_why_40 : decode cX5_why 40 = .ok (.aload_n 0, 1) := by decide +kernel
theorem dX5_why_41 : decode cX5_why 41 = .ok (.aload_n 0, 1) := by decide +kernel
theorem dX5_why_42 : decode cX5_why 42 = .ok (.getfield 34, 3) := by decide +kernel
theorem dX5_why_45 : decode cX5_why 45 = .ok (.iload 4, 2) := by decide +kernel
theorem dX5_why_47 : decode cX5_why 47 = .ok (.iaload, 1) := by decide +kernel
theorem dX5_why_48 : decode cX5_why 48 = .ok (.iload_n 1, 1) := by decide +kernel
theorem dX5_why_49 : decode cX5_why 49 = .ok (.invokevirtual 111, 3) := by decide +kernel
theorem dX5_why_52 : decode cX5_why 52 = .ok (.istore 5, 2) := by decide +kernel
theorem dX5_why_54 : decode cX5_why 54 = .ok (.iload_n 3, 1) := by decide +kernel
theorem dX5_why_55 : decode cX5_why 55 = .ok (.iconst 1, 1) := by decide +kernel
theorem dX5_why_56 : decode cX5_why 56 = .ok (.iadd, 1) := by decide +kernel
theorem dX5_why_57 : decode cX5_why 57 = .ok (.iload 5, 2) := by decide +kernel
theorem dX5_why_59 : decode cX5_why 59 = .ok (.iadd, 1) := by decide +kernel
theorem dX5_why_60 : decode cX5_why 60 = .ok (.iload_n 1, 1) := by decide +kernel
theorem dX5_why_61 : decode cX5_why 61 = .ok (.if_icmp .le 25, 3) := by decide +kernel
theorem dX5_why_64 : decode cX5_why 64 = .ok (.iload_n 2, 1) := by decide +kernel
theorem dX5_why_65 : decode cX5_why 65 = .ok (.iconst 1, 1) := by decide +kernel
theorem dX5_why_66 : decode cX5_why 66 = .ok (.if_icmp .ne 8, 3) := by decide +kernel
theorem dX5_why_69 : decode cX5_why 69 = .ok (.iload 4, 2) := by decide +kernel
theorem dX5_why_71 : decode cX5_why 71 = .ok (.goto 14, 3) := by decide +kernel
theorem dX5_why_74 : decode cX5_why 74 = .ok (.iload 5, 2) := by decide +kernel
theorem dX5_why_76 : decode cX5_why 76 = .ok (.iload_n 1, 1) := by decide +kernel
theorem dX5_why_77 : decode cX5_why 77 = .ok (.if_icmp .le 7, 3) := by decide +kernel
theorem dX5_why_80 : decode cX5_why 80 = .ok (.iconst 1, 1) := by decide +kernel
theorem dX5_why_81 : decode cX5_why 81 = .ok (.goto 4, 3) := by decide +kernel
theorem dX5_why_84 : decode cX5_why 84 = .ok (.iconst 2, 1) := by decide +kernel
theorem dX5_why_85 : decode cX5_why 85 = .ok (.ireturn, 1) := by decide +kernel
theorem dX5_why_86 : decode cX5_why 86 = .ok (.iload_n 3, 1) := by decide +kernel
theorem dX5_why_87 : decode cX5_why 87 = .ok (.iconst 1, 1) := by decide +kernel
theorem dX5_why_88 : decode cX5_why 88 = .ok (.iload 5, 2) := by decide +kernel
theorem dX5_why_90 : decode cX5_why 90 = .ok (.iadd, 1) := by decide +kernel
theorem dX5_why_91 : decode cX5_why 91 = .ok (.iadd, 1) := by decide +kernel
theorem dX5_why_92 : decode cX5_why 92 = .ok (.istore_n 3, 1) := by decide +kernel
theorem dX5_why_93 : decode cX5_why 93 = .ok (.iinc 4 1, 3) := by decide +kernel
theorem dX5_why_96 : decode cX5_why 96 = .ok (.goto (-65), 3) := by decide +kernel
theorem dX5_why_99 : decode cX5_why 99 = .ok (.iload_n 2, 1) := by decide +kernel
theorem dX5_why_100 : decode cX5_why 100 = .ok (.ifCond .ne 7, 3) := by decide +kernel
theorem dX5_why_103 : decode cX5_why 103 = .ok (.iconst 0, 1) := by decide +kernel
theorem dX5_why_104 : decode cX5_why 104 = .ok (.goto 5, 3) := by decide +kernel
theorem dX5_why_107 : decode cX5_why 107 = .ok (.bipush (-6), 2) := by decide +kernel
theorem dX5_why_109 : decode cX5_why 109 = .ok (.ireturn, 1) := by decide +kernel
set_option maxRecDepth 20000 in
theorem ggX5_best_X5_in : GoodIn wsX5_best wsX5_in := goodIn_r _ [5] (by decide +kernel) (by decide +kernel)
set_option maxRecDepth 20000 in
theorem gX5_best_X5_in : GoodIn wsX5_best (va_wsS RX5 66 yX5_in wsX5_in) := goodIn_app (goodIn_of _ (by decide +kernel)) ggX5_best_X5_in
