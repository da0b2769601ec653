set_option maxRecDepth 20000 in
theorem ggX5_fit_X5_layFit : GoodIn wsX5_fit wsX5_layFit := goodIn_r _ [47, 1, 48, 32, 49, 50, 51, 2, 3, 4, 5, 6, 7, 8, 9, 10, 11, 12, 13, 14, 15, 16, 17, 18, 19, 20, 21, 22, 23, 24, 25, 26, 27, 28, 29, 30, 31, 33, 34, 35, 36, 37, 38, 39, 40, 52, 53, 54, 55, 56, 57, 58, 59, 60, 61, 62, 63, 64, 65, 66, 67, 68, 69, 70, 71, 72, 73, 74, 75, 76, 77, 78, 79, 80, 81, 82, 83, 84, 85, 86, 87, 88, 89, 90, 91, 92, 93, 94, 95, 96, 97] rfl (by decide +kernel)
set_option maxRecDepth 20000 in
theorem gX5_fit_X5_layFit : GoodIn wsX5_fit (wsV RX5 143 RX5 yX5_layFit wsX5_layFit) := goodIn_app (goodIn_of _ (by decide +kernel)) ggX5_fit_X5_layFit
theorem dX5_fit_0 : decode cX5_fit 0 = .ok (.aload_n 0, 1) := by decide +kernel
theorem dX5_fit_1 : decode cX5_fit 1 = .ok (.invokevirtual 108, 3) := by decide +kernel
theorem dX5_fit_4 : decode cX5_fit 4 = .ok (.iload_n 2, 1) := by decide +kernel
theorem dX5_fit_5 : decode cX5_fit 5 = .ok (.iconst 0, 1) := by decide +kernel
theorem dX5_fit_6 : decode cX5_fit 6 = .ok (.aload_n 0, 1) := by decide +kernel
theorem dX5_fit_7 : decode cX5_fit 7 = .ok (.getfield 89, 3) := by decide +kernel
theorem dX5_fit_10 : decode cX5_fit 10 = .ok (.iconst 1, 1) := by decide +kernel
theorem dX5_fit_11 : decode cX5_fit 11 = .ok (.isub, 1) := by decide +kernel
theorem dX5_fit_12 : decode cX5_fit 12 = .ok (.invokestatic 66, 3) := by decide +kernel
theorem dX5_fit_15 : decode cX5_fit 15 = .ok (.ifCond .ne 5, 3) := by decide +kernel
theorem dX5_fit_18 : decode cX5_fit 18 = .ok (.iconst (-1), 1) := by decide +kernel
theorem dX5_fit_19 : decode cX5_fit 19 = .ok (.ireturn, 1) := by decide +kernel
theorem dX5_fit_20 : decode cX5_fit 20 = .ok (.iload_n 1, 1) := by decide +kernel
theorem dX5_fit_21 : decode cX5_fit 21 = .ok (.iconst 1, 1) := by decide +kernel
theorem dX5_fit_22 : decode cX5_fit 22 = .ok (.bipush 60, 2) := by decide +kernel
theorem dX5_fit_24 : decode cX5_fit 24 = .ok (.invokestatic 66, 3) := by decide +kernel
theorem dX5_fit_27 : decode cX5_fit 27 = .ok (.ifCond .ne 6, 3) := by decide +kernel
theorem dX5_fit_30 : decode cX5_fit 30 = .ok (.bipush (-2), 2) := by decide +kernel
theorem dX5_fit_32 : decode cX5_fit 32 = .ok (.ireturn, 1) := by decide +kernel
theorem dX5_fit_33 : decode cX5_fit 33 = .ok (.aload_n 0, 1) := by decide +kernel
theorem dX5_fit_34 : decode cX5_fit 34 = .ok (.iload_n 1, 1) := by decide +kernel
theorem dX5_fit_35 : decode cX5_fit 35 = .ok (.invokevirtual 143, 3) := by decide +kernel
theorem dX5_fit_38 : decode cX5_fit 38 = .ok (.ifCond .eq 12, 3) := by decide +kernel
theorem dX5_fit_41 : decode cX5_fit 41 = .ok (.aload_n 0, 1) := by decide +kernel
theorem dX5_fit_42 : decode cX5_fit 42 = .ok (.getfield 53, 3) := by decide +kernel
theorem dX5_fit_45 : decode cX5_fit 45 = .ok (.iload_n 2, 1) := by decide +kernel
theorem dX5_fit_46 : decode cX5_fit 46 = .ok (.iaload, 1) := by decide +kernel
theorem dX5_fit_47 : decode cX5_fit 47 = .ok (.goto 5, 3) := by decide +kernel
theorem dX5_fit_50 : decode cX5_fit 50 = .ok (.bipush (-3), 2) := by decide +kernel
theorem dX5_fit_52 : decode cX5_fit 52 = .ok (.ireturn, 1) := by decide +kernel
set_option maxRecDepth 20000 in
theorem ggX5_distortion_X5_in : GoodIn wsX5_distortion wsX5_in := goodIn_r _ [7] (by decide +kernel) (by decide +kernel)
set_option maxRecDepth 20000 in
theorem gX5_distortion_X5_in : GoodIn wsX5_distortion (va_wsS RX5 66 yX5_in wsX5_in) := goodIn_app (goodIn_of _ (by decide +kernel)) ggX5_distortion_X5_in
