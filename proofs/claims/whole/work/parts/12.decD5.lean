set_option maxRecDepth 20000 in
theorem ggX5_best_X5_layFit : GoodIn wsX5_best wsX5_layFit := goodIn_r _ [9, 10, 11, 12, 1, 13, 14, 15, 16, 17, 18, 4, 19, 20, 21, 22, 23, 24, 25, 26, 27, 28, 29, 30, 31, 32, 33, 34, 35, 36, 37, 38, 39, 40, 41, 42, 43, 44, 45, 46, 47, 48, 49, 50, 51, 52, 53, 54, 55, 56, 57, 58, 59, 60, 61, 62, 63, 64, 65, 66, 67, 68, 69, 70, 71, 72, 73, 74, 75, 76, 77, 78, 79, 80, 81, 82, 83, 84, 85, 86, 87, 88, 89, 90, 91, 92, 93, 94, 95, 96, 97] rfl (by decide +kernel)
set_option maxRecDepth 20000 in
theorem gX5_best_X5_layFit : GoodIn wsX5_best (wsV RX5 143 RX5 yX5_layFit wsX5_layFit) := goodIn_app (goodIn_of _ (by decide +kernel)) ggX5_best_X5_layFit
theorem dX5_best_0 : decode cX5_best 0 = .ok (.iload_n 1, 1) := by decide +kernel
theorem dX5_best_1 : decode cX5_best 1 = .ok (.iconst 1, 1) := by decide +kernel
theorem dX5_best_2 : decode cX5_best 2 = .ok (.bipush 60, 2) := by decide +kernel
theorem dX5_best_4 : decode cX5_best 4 = .ok (.invokestatic 66, 3) := by decide +kernel
theorem dX5_best_7 : decode cX5_best 7 = .ok (.ifCond .ne 6, 3) := by decide +kernel
theorem dX5_best_10 : decode cX5_best 10 = .ok (.bipush (-2), 2) := by decide +kernel
theorem dX5_best_12 : decode cX5_best 12 = .ok (.ireturn, 1) := by decide +kernel
theorem dX5_best_13 : decode cX5_best 13 = .ok (.bipush (-6), 2) := by decide +kernel
theorem dX5_best_15 : decode cX5_best 15 = .ok (.istore_n 2, 1) := by decide +kernel
theorem dX5_best_16 : decode cX5_best 16 = .ok (.lconst 0, 1) := by decide +kernel
theorem dX5_best_17 : decode cX5_best 17 = .ok (.lstore_n 3, 1) := by decide +kernel
theorem dX5_best_18 : decode cX5_best 18 = .ok (.iconst 1, 1) := by decide +kernel
theorem dX5_best_19 : decode cX5_best 19 = .ok (.istore 5, 2) := by decide +kernel
theorem dX5_best_21 : decode cX5_best 21 = .ok (.iload 5, 2) := by decide +kernel
theorem dX5_best_23 : decode cX5_best 23 = .ok (.iload_n 1, 1) := by decide +kernel
theorem dX5_best_24 : decode cX5_best 24 = .ok (.if_icmp .gt 46, 3) := by decide +kernel
theorem dX5_best_27 : decode cX5_best 27 = .ok (.aload_n 0, 1) := by decide +kernel
theorem dX5_best_28 : decode cX5_best 28 = .ok (.iload 5, 2) := by decide +kernel
theorem dX5_best_30 : decode cX5_best 30 = .ok (.invokevirtual 143, 3) := by decide +kernel
theorem dX5_best_33 : decode cX5_best 33 = .ok (.ifCond .eq 31, 3) := by decide +kernel
theorem dX5_best_36 : decode cX5_best 36 = .ok (.iload_n 2, 1) := by decide +kernel
theorem dX5_best_37 : decode cX5_best 37 = .ok (.ifCond .lt 19, 3) := by decide +kernel
theorem dX5_best_40 : decode cX5_best 40 = .ok (.aload_n 0, 1) := by decide +kernel
theorem dX5_best_41 : decode cX5_best 41 = .ok (.getfield 125, 3) := by decide +kernel
theorem dX5_best_44 : decode cX5_best 44 = .ok (.iload_n 2, 1) := by decide +kernel
theorem dX5_best_45 : decode cX5_best 45 = .ok (.i2l, 1) := by decide +kernel
theorem dX5_best_46 : decode cX5_best 46 = .ok (.lmul, 1) := by decide +kernel
theorem dX5_best_47 : decode cX5_best 47 = .ok (.lload_n 3, 1) := by decide +kernel
theorem dX5_best_48 : decode cX5_best 48 = .ok (.iload 5, 2) := by decide +kernel
theorem dX5_best_50 : decode cX5_best 50 = .ok (.i2l, 1) := by decide +kernel
theorem dX5_best_51 : decode cX5_best 51 = .ok (.lmul, 1) := by decide +kernel
theorem dX5_best_52 : decode cX5_best 52 = .ok (.lcmp, 1) := by decide +kernel
theorem dX5_best_53 : decode cX5_best 53 = .ok (.ifCond .gt 11, 3) := by decide +kernel
theorem dX5_best_56 : decode cX5_best 56 = .ok (.iload 5, 2) := by decide +kernel
theorem dX5_best_58 : decode cX5_best 58 = .ok (.istore_n 2, 1) := by decide +kernel
theorem dX5_best_59 : decode cX5_best 59 = .ok (.aload_n 0, 1) := by decide +kernel
theorem dX5_best_60 : decode cX5_best 60 = .ok (.getfield 125, 3) := by decide +kernel
theorem dX5_best_63 : decode cX5_best 63 = .ok (.lstore_n 3, 1) := by decide +kernel
theorem dX5_best_64 : decode cX5_best 64 = .ok (.iinc 5 1, 3) := by decide +kernel
theorem dX5_best_67 : decode cX5_best 67 = .ok (.goto (-46), 3) := by decide +kernel
theorem dX5_best_70 : decode cX5_best 70 = .ok (.iload_n 2, 1) := by decide +kernel
theorem dX5_best_71 : decode cX5_best 71 = .ok (.ireturn, 1) := by decide +kernel
set_option maxRecDepth 20000 in
theorem ggX5_place_X5_in : GoodIn wsX5_place wsX5_in := goodIn_r _ [11] (by decide +kernel) (by decide +kernel)
set_option maxRecDepth 20000 in
theorem gX5_place_X5_in : GoodIn wsX5_place (va_wsS RX5 66 yX5_in wsX5_in) := goodIn_app (goodIn_of _ (by decide +kernel)) ggX5_place_X5_in
