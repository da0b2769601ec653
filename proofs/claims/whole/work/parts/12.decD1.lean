theorem dX5_dotsOf_31 : decode cX5_dotsOf 31 = .ok (.iconst 1, 1) := by decide +kernel
theorem dX5_dotsOf_32 : decode cX5_dotsOf 32 = .ok (.goto 4, 3) := by decide +kernel
theorem dX5_dotsOf_35 : decode cX5_dotsOf 35 = .ok (.iload_n 3, 1) := by decide +kernel
theorem dX5_dotsOf_36 : decode cX5_dotsOf 36 = .ok (.aload_n 0, 1) := by decide +kernel
theorem dX5_dotsOf_37 : decode cX5_dotsOf 37 = .ok (.getfield 13, 3) := by decide +kernel
theorem dX5_dotsOf_40 : decode cX5_dotsOf 40 = .ok (.iconst 4, 1) := by decide +kernel
theorem dX5_dotsOf_41 : decode cX5_dotsOf 41 = .ok (.iaload, 1) := by decide +kernel
theorem dX5_dotsOf_42 : decode cX5_dotsOf 42 = .ok (.iadd, 1) := by decide +kernel
theorem dX5_dotsOf_43 : decode cX5_dotsOf 43 = .ok (.ireturn, 1) := by decide +kernel
set_option maxRecDepth 20000 in
theorem ggX5_dots_X5_layStems : GoodIn wsX5_dots wsX5_layStems := goodIn_r _ [6, 7, 8, 9, 10, 11, 12, 13, 14, 15, 16, 5, 17, 18, 19, 20, 21, 22, 23, 24, 25, 26, 27, 28, 29, 30, 1, 31, 32, 33, 34, 35, 36, 37, 38, 39, 47, 48, 49, 50, 51, 52, 53, 54, 55, 56, 57, 58, 59, 60, 61, 62, 63, 64, 65, 66, 67, 68, 69] (by decide +kernel) (by decide +kernel)
set_option maxRecDepth 20000 in
theorem gX5_dots_X5_layStems : GoodIn wsX5_dots (wsV RX5 108 RX5 yX5_layStems wsX5_layStems) := goodIn_app (goodIn_of _ (by decide +kernel)) ggX5_dots_X5_layStems
set_option maxRecDepth 20000 in
theorem ggX5_dots_X5_in : GoodIn wsX5_dots wsX5_in := goodIn_r _ [42] (by decide +kernel) (by decide +kernel)
set_option maxRecDepth 20000 in
theorem gX5_dots_X5_in : GoodIn wsX5_dots (va_wsS RX5 66 yX5_in wsX5_in) := goodIn_app (goodIn_of _ (by decide +kernel)) ggX5_dots_X5_in
set_option maxRecDepth 20000 in
theorem ggX5_dots_X5_dotsOf : GoodIn wsX5_dots wsX5_dotsOf := goodIn_r _ [46, 35, 34, 33, 47, 48, 49, 50, 51, 52, 53, 54, 55, 56, 57, 58, 59, 60, 61, 62, 63, 64, 65, 66, 67, 68, 69] (by decide +kernel) (by decide +kernel)
set_option maxRecDepth 20000 in
theorem gX5_dots_X5_dotsOf : GoodIn wsX5_dots (wsV RX5 111 RX5 yX5_dotsOf wsX5_dotsOf) := goodIn_app (goodIn_of _ (by decide +kernel)) ggX5_dots_X5_dotsOf
theorem dX5_dots_0 : decode cX5_dots 0 = .ok (.aload_n 0, 1) := by decide +kernel
theorem dX5_dots_1 : decode cX5_dots 1 = .ok (.invokevirtual 108, 3) := by decide +kernel
theorem dX5_dots_4 : decode cX5_dots 4 = .ok (.iload_n 1, 1) := by decide +kernel
theorem dX5_dots_5 : decode cX5_dots 5 = .ok (.iconst 0, 1) := by decide +kernel
theorem dX5_dots_6 : decode cX5_dots 6 = .ok (.aload_n 0, 1) := by decide +kernel
theorem dX5_dots_7 : decode cX5_dots 7 = .ok (.getfield 102, 3) := by decide +kernel
theorem dX5_dots_10 : decode cX5_dots 10 = .ok (.iconst 1, 1) := by decide +kernel
theorem dX5_dots_11 : decode cX5_dots 11 = .ok (.isub, 1) := by decide +kernel
theorem dX5_dots_12 : decode cX5_dots 12 = .ok (.invokestatic 66, 3) := by decide +kernel
theorem dX5_dots_15 : decode cX5_dots 15 = .ok (.ifCond .ne 5, 3) := by decide +kernel
theorem dX5_dots_18 : decode cX5_dots 18 = .ok (.iconst (-1), 1) := by decide +kernel
theorem dX5_dots_19 : decode cX5_dots 19 = .ok (.ireturn, 1) := by decide +kernel
theorem dX5_dots_20 : decode cX5_dots 20 = .ok (.iload_n 2, 1) := by decide +kernel
theorem dX5_dots_21 : decode cX5_dots 21 = .ok (.iconst 1, 1) := by decide +kernel
theorem dX5_dots_22 : decode cX5_dots 22 = .ok (.bipush 60, 2) := by decide +kernel
theorem dX5_dots_24 : decode cX5_dots 24 = .ok (.invokestatic 66, 3) := by decide +kernel
theorem dX5_dots_27 : decode cX5_dots 27 = .ok (.ifCond .eq 12, 3) := by decide +kernel
theorem dX5_dots_30 : decode cX5_dots 30 = .ok (.aload_n 0, 1) := by decide +kernel
theorem dX5_dots_31 : decode cX5_dots 31 = .ok (.iload_n 1, 1) := by decide +kernel
theorem dX5_dots_32 : decode cX5_dots 32 = .ok (.iload_n 2, 1) := by decide +kernel
theorem dX5_dots_33 : decode cX5_dots 33 = .ok (.invokevirtual 111, 3) := by decide +kernel
theorem dX5_dots_36 : decode cX5_dots 36 = .ok (.goto 5, 3) := by decide +kernel
theorem dX5_dots_39 : decode cX5_dots 39 = .ok (.bipush (-2), 2) := by decide +kernel
theorem dX5_dots_41 : decode cX5_dots 41 = .ok (.ireturn, 1) := by decide +kernel
set_option maxRecDepth 20000 in
theorem ggX5_grows_X5_layStems : GoodIn wsX5_grows wsX5_layStems := goodIn_r _ [6, 7, 8, 9, 10, 11, 12, 13, 14, 15, 16, 5, 17, 18, 19, 20, 21, 22, 23, 24, 25, 26, 27, 28, 29, 30, 1, 31, 32, 33, 34, 35, 36, 37, 38, 39, 47, 48, 49, 50, 51, 52, 53, 54, 55, 56, 57, 58, 59, 60, 61, 62, 63, 64, 65, 66, 67, 68, 69] (by decide +kernel) (by decide +kernel)
set_option maxRecDepth 20000 in
theorem gX5_grows_X5_layStems : GoodIn wsX5_grows (wsV RX5 108 RX5 yX5_layStems wsX5_layStems) := goodIn_app (goodIn_of _ (by decide +kernel)) ggX5_grows_X5_layStems
set_option maxRecDepth 20000 in
theorem ggX5_grows_X5_in : GoodIn wsX5_grows wsX5_in := goodIn_r _ [42] (by decide +kernel) (by decide +kernel)
set_option maxRecDepth 20000 in
theorem gX5_grows_X5_in : GoodIn wsX5_grows (va_wsS RX5 66 yX5_in wsX5_in) := goodIn_app (goodIn_of _ (by decide +kernel)) ggX5_grows_X5_in
set_option maxRecDepth 20000 in
theorem ggX5_grows_X5_dotsOf : GoodIn wsX5_grows wsX5_dotsOf := goodIn_r _ [46, 35, 34, 33, 47, 48, 49, 50, 51, 52, 53, 54, 55, 56, 57, 58, 59, 60, 61, 62, 63, 64, 65, 66, 67, 68, 69] (by decide +kernel) (by decide +kernel)
set_option maxRecDepth 20000 in
theorem gX5_grows_X5_dotsOf : GoodIn wsX5_grows (wsV RX5 111 RX5 yX5_dotsOf wsX5_dotsOf) := goodIn_app (goodIn_of _ (by decide +kernel)) ggX5_grows_X5_dotsOf
theorem dX5_grows_0 : decode cX5_grows 0 = .ok (.aload_n 0, 1) := by decide +kernel
theorem dX5_grows_1 : decode cX5_grows 1 = .ok (.invokevirtual 108, 3) := by decide +kernel
theorem dX5_grows_4 : decode cX5_grows 4 = .ok (.iload_n 1, 1) := by decide +kernel
theorem dX5_grows_5 : decode cX5_grows 5 = .ok (.iconst 0, 1) := by decide +kernel
theorem dX5_grows_6 : decode cX5_grows 6 = .ok (.aload_n 0, 1) := by decide +kernel
theorem dX5_grows_7 : decode cX5_grows 7 = .ok (.getfield 102, 3) := by decide +kernel
theorem dX5_grows_10 : decode cX5_grows 10 = .ok (.iconst 1, 1) := by decide +kernel
theorem dX5_grows_11 : decode cX5_grows 11 = .ok (.isub, 1) := by decide +kernel
theorem dX5_grows_12 : decode cX5_grows 12 = .ok (.invokestatic 66, 3) := by decide +kernel
theorem dX5_grows_15 : decode cX5_grows 15 = .ok (.ifCond .ne 5, 3) := by decide +kernel
theorem dX5_grows_18 : decode cX5_grows 18 = .ok (.iconst (-1), 1) := by decide +kernel
theorem dX5_grows_19 : decode cX5_grows 19 = .ok (.ireturn, 1) := by decide +kernel
theorem dX5_grows_20 : decode cX5_grows 20 = .ok (.iload_n 2, 1) := by decide +kernel
theorem dX5_grows_21 : decode cX5_grows 21 = .ok (.iconst 1, 1) := by decide +kernel
theorem dX5_grows_22 : decode cX5_grows 22 = .ok (.bipush 60, 2) := by decide +kernel
theorem dX5_grows_24 : decode cX5_grows 24 = .ok (.invokestatic 66, 3) := by decide +kernel
theorem dX5_grows_27 : decode cX5_grows 27 = .ok (.ifCond .ne 6, 3) := by decide +kernel
theorem dX5_grows_30 : decode cX5_grows 30 = .ok (.bipush (-2), 2) := by decide +kernel
theorem dX5_grows_32 : decode cX5_grows 32 = .ok (.ireturn, 1) := by decide +kernel
theorem dX5_grows_33 : decode cX5_grows 33 = .ok (.iconst 1, 1) := by decide +kernel
theorem dX5_grows_34 : decode cX5_grows 34 = .ok (.istore_n 3, 1) := by decide +kernel
theorem dX5_grows_35 : decode cX5_grows 35 = .ok (.iload_n 3, 1) := by decide +kernel
theorem dX5_grows_36 : decode cX5_grows 36 = .ok (.bipush 60, 2) := by decide +kernel
theorem dX5_grows_38 : decode cX5_grows 38 = .ok (.if_icmp .gt 21, 3) := by decide +kernel
theorem dX5_grows_41 : decode cX5_grows 41 = .ok (.aload_n 0, 1) := by decide +kernel
theorem dX5_grows_42 : decode cX5_grows 42 = .ok (.iload_n 1, 1) := by decide +kernel
theorem dX5_grows_43 : decode cX5_grows 43 = .ok (.iload_n 3, 1) := by decide +kernel
theorem dX5_grows_44 : decode cX5_grows 44 = .ok (.invokevirtual 111, 3) := by decide +kernel
theorem dX5_grows_47 : decode cX5_grows 47 = .ok (.iload_n 2, 1) := by decide +kernel
theorem dX5_grows_48 : decode cX5_grows 48 = .ok (.if_icmp .lt 5, 3) := by decide +kernel
theorem dX5_grows_51 : decode cX5_grows 51 = .ok (.iload_n 3, 1) := by decide +kernel
theorem dX5_grows_52 : decode cX5_grows 52 = .ok (.ireturn, 1) := by decide +kernel
theorem dX5_grows_53 : decode cX5_grows 53 = .ok (.iinc 3 1, 3) := by decide +kernel
theorem dX5_grows_56 : decode cX5_grows 56 = .ok (.goto (-21), 3) := by decide +kernel
theorem dX5_grows_59 : decode cX5_grows 59 = .ok (.bipush (-6), 2) := by decide +kernel
theorem dX5_grows_61 : decode cX5_grows 61 = .ok (.ireturn, 1) := by decide +kernel
theorem dX5_counted_0 : decode cX5_counted 0 = .ok (.aload_n 0, 1) := by decide +kernel
theorem dX5_counted_1 : decode cX5_counted 1 = .ok (.getfield 13, 3) := by decide +kernel
theorem dX5_counted_4 : decode cX5_counted 4 = .ok (.iconst 3, 1) := by decide +kernel
theorem dX5_counted_5 : decode cX5_counted 5 = .ok (.iaload, 1) := by decide +kernel
theorem dX5_counted_6 : decode cX5_counted 6 = .ok (.iconst 2, 1) := by decide +kernel
theorem dX5_counted_7 : decode cX5_counted 7 = .ok (.irem, 1) := by decide +kernel
theorem dX5_counted_8 : decode cX5_counted 8 = .ok (.iconst 1, 1) := by decide +kernel
theorem dX5_counted_9 : decode cX5_counted 9 = .ok (.if_icmp .ne 13, 3) := by decide +kernel
theorem dX5_counted_12 : decode cX5_counted 12 = .ok (.lload_n 1, 1) := by decide +kernel
theorem dX5_counted_13 : decode cX5_counted 13 = .ok (.lload_n 1, 1) := by decide +kernel
theorem dX5_counted_14 : decode cX5_counted 14 = .ok (.lmul, 1) := by decide +kernel
theorem dX5_counted_15 : decode cX5_counted 15 = .ok (.ldc2_w 115, 3) := by decide +kernel
theorem dX5_counted_18 : decode cX5_counted 18 = .ok (.ldiv, 1) := by decide +kernel
theorem dX5_counted_19 : decode cX5_counted 19 = .ok (.goto 4, 3) := by decide +kernel
theorem dX5_counted_22 : decode cX5_counted 22 = .ok (.lload_n 1, 1) := by decide +kernel
theorem dX5_counted_23 : decode cX5_counted 23 = .ok (.iload_n 3, 1) := by decide +kernel
theorem dX5_counted_24 : decode cX5_counted 24 = .ok (.i2l, 1) := by decide +kernel
theorem dX5_counted_25 : decode cX5_counted 25 = .ok (.lmul, 1) := by decide +kernel
theorem dX5_counted_26 : decode cX5_counted 26 = .ok (.lreturn, 1) := by decide +kernel
theorem dX5_both_0 : decode cX5_both 0 = .ok (.aload_n 0, 1) := by decide +kernel
theorem dX5_both_1 : decode cX5_both 1 = .ok (.getfield 13, 3) := by decide +kernel
theorem dX5_both_4 : decode cX5_both 4 = .ok (.iconst 3, 1) := by decide +kernel
theorem dX5_both_5 : decode cX5_both 5 = .ok (.iaload, 1) := by decide +kernel
theorem dX5_both_6 : decode cX5_both 6 = .ok (.iconst 2, 1) := by decide +kernel
theorem dX5_both_7 : decode cX5_both 7 = .ok (.if_icmp .ge 9, 3) := by decide +kernel
theorem dX5_both_10 : decode cX5_both 10 = .ok (.lload_n 1, 1) := by decide +kernel
theorem dX5_both_11 : decode cX5_both 11 = .ok (.lload_n 3, 1) := by decide +kernel
theorem dX5_both_12 : decode cX5_both 12 = .ok (.ladd, 1) := by decide +kernel
theorem dX5_both_13 : decode cX5_both 13 = .ok (.goto 14, 3) := by decide +kernel
theorem dX5_both_16 : decode cX5_both 16 = .ok (.lload_n 1, 1) := by decide +kernel
theorem dX5_both_17 : decode cX5_both 17 = .ok (.lload_n 3, 1) := by decide +kernel
theorem dX5_both_18 : decode cX5_both 18 = .ok (.lcmp, 1) := by decide +kernel
theorem dX5_both_19 : decode cX5_both 19 = .ok (.ifCond .le 7, 3) := by decide +kernel
theorem dX5_both_22 : decode cX5_both 22 = .ok (.lload_n 1, 1) := by decide +kernel
theorem dX5_both_23 : decode cX5_both 23 = .ok (.goto 4, 3) := by decide +kernel
theorem dX5_both_26 : decode cX5_both 26 = .ok (.lload_n 3, 1) := by decide +kernel
theorem dX5_both_27 : decode cX5_both 27 = .ok (.lreturn, 1) := by decide +kernel
set_option maxRecDepth 20000 in
theorem ggX5_stemDrift_X5_counted : GoodIn wsX5_stemDrift wsX5_counted := goodIn_r _ [10, 5, 1, 11, 12, 13, 14, 15, 16, 17, 18, 19, 20, 21, 22, 23, 24, 25, 26, 27, 28, 29, 30, 31, 32, 33] (by decide +kernel) (by decide +kernel)
set_option maxRecDepth 20000 in
theorem gX5_stemDrift_X5_counted : GoodIn wsX5_stemDrift (wsV RX5 117 RX5 yX5_counted wsX5_counted) := goodIn_app (goodIn_of _ (by decide +kernel)) ggX5_stemDrift_X5_counted
theorem dX5_stemDrift_0 : decode cX5_stemDrift 0 = .ok (.ldc2_w 115, 3) := by decide +kernel
theorem dX5_stemDrift_3 : decode cX5_stemDrift 3 = .ok (.iconst 2, 1) := by decide +kernel
theorem dX5_stemDrift_4 : decode cX5_stemDrift 4 = .ok (.iload_n 2, 1) := by decide +kernel
theorem dX5_stemDrift_5 : decode cX5_stemDrift 5 = .ok (.imul, 1) := by decide +kernel
theorem dX5_stemDrift_6 : decode cX5_stemDrift 6 = .ok (.aload_n 0, 1) := by decide +kernel
theorem dX5_stemDrift_7 : decode cX5_stemDrift 7 = .ok (.getfield 56, 3) := by decide +kernel
theorem dX5_stemDrift_10 : decode cX5_stemDrift 10 = .ok (.iload_n 1, 1) := by decide +kernel
theorem dX5_stemDrift_11 : decode cX5_stemDrift 11 = .ok (.iaload, 1) := by decide +kernel
theorem dX5_stemDrift_12 : decode cX5_stemDrift 12 = .ok (.iadd, 1) := by decide +kernel
theorem dX5_stemDrift_13 : decode cX5_stemDrift 13 = .ok (.i2l, 1) := by decide +kernel
theorem dX5_stemDrift_14 : decode cX5_stemDrift 14 = .ok (.lmul, 1) := by decide +kernel
theorem dX5_stemDrift_15 : decode cX5_stemDrift 15 = .ok (.aload_n 0, 1) := by decide +kernel
theorem dX5_stemDrift_16 : decode cX5_stemDrift 16 = .ok (.getfield 22, 3) := by decide +kernel
theorem dX5_stemDrift_19 : decode cX5_stemDrift 19 = .ok (.iload_n 1, 1) := by decide +kernel
theorem dX5_stemDrift_20 : decode cX5_stemDrift 20 = .ok (.iaload, 1) := by decide +kernel
theorem dX5_stemDrift_21 : decode cX5_stemDrift 21 = .ok (.aload_n 0, 1) := by decide +kernel
theorem dX5_stemDrift_22 : decode cX5_stemDrift 22 = .ok (.getfield 25, 3) := by decide +kernel
theorem dX5_stemDrift_25 : decode cX5_stemDrift 25 = .ok (.iload_n 1, 1) := by decide +kernel
theorem dX5_stemDrift_26 : decode cX5_stemDrift 26 = .ok (.iaload, 1) := by decide +kernel
theorem dX5_stemDrift_27 : decode cX5_stemDrift 27 = .ok (.iadd, 1) := by decide +kernel
theorem dX5_stemDrift_28 : decode cX5_stemDrift 28 = .ok (.i2l, 1) := by decide +kernel
theorem dX5_stemDrift_29 : decode cX5_stemDrift 29 = .ok (.iload_n 3, 1) := by decide +kernel
theorem dX5_stemDrift_30 : decode cX5_stemDrift 30 = .ok (.i2l, 1) := by decide +kernel
theorem dX5_stemDrift_31 : decode cX5_stemDrift 31 = .ok (.lmul, 1) := by decide +kernel
theorem dX5_stemDrift_32 : decode cX5_stemDrift 32 = .ok (.lsub, 1) := by decide +kernel
theorem dX5_stemDrift_33 : decode cX5_stemDrift 33 = .ok (.lstore 4, 2) := by decide +kernel
theorem dX5_stemDrift_35 : decode cX5_stemDrift 35 = .ok (.aload_n 0, 1) := by decide +kernel
theorem dX5_stemDrift_36 : decode cX5_stemDrift 36 = .ok (.lload 4, 2) := by decide +kernel
theorem dX5_stemDrift_38 : decode cX5_stemDrift 38 = .ok (.lconst 0, 1) := by decide +kernel
theorem dX5_stemDrift_39 : decode cX5_stemDrift 39 = .ok (.lcmp, 1) := by decide +kernel
theorem dX5_stemDrift_40 : decode cX5_stemDrift 40 = .ok (.ifCond .ge 9, 3) := by decide +kernel
theorem dX5_stemDrift_43 : decode cX5_stemDrift 43 = .ok (.lload 4, 2) := by decide +kernel
theorem dX5_stemDrift_45 : decode cX5_stemDrift 45 = .ok (.lneg, 1) := by decide +kernel
theorem dX5_stemDrift_46 : decode cX5_stemDrift 46 = .ok (.goto 5, 3) := by decide +kernel
theorem dX5_stemDrift_49 : decode cX5_stemDrift 49 = .ok (.lload 4, 2) := by decide +kernel
theorem dX5_stemDrift_51 : decode cX5_stemDrift 51 = .ok (.aload_n 0, 1) := by decide +kernel
theorem dX5_stemDrift_52 : decode cX5_stemDrift 52 = .ok (.getfield 13, 3) := by decide +kernel
theorem dX5_stemDrift_55 : decode cX5_stemDrift 55 = .ok (.iconst 1, 1) := by decide +kernel
theorem dX5_stemDrift_56 : decode cX5_stemDrift 56 = .ok (.iaload, 1) := by decide +kernel
theorem dX5_stemDrift_57 : decode cX5_stemDrift 57 = .ok (.invokevirtual 117, 3) := by decide +kernel
theorem dX5_stemDrift_60 : decode cX5_stemDrift 60 = .ok (.lreturn, 1) := by decide +kernel
set_option maxRecDepth 20000 in
theorem ggX5_gapDrift_X5_counted : GoodIn wsX5_gapDrift wsX5_counted := goodIn_r _ [12, 7, 1, 13, 14, 15, 16, 17, 18, 19, 20, 21, 22, 23, 24, 25, 26, 27, 28, 29, 30, 31, 32, 33, 34, 35] (by decide +kernel) (by decide +kernel)
set_option maxRecDepth 20000 in
theorem gX5_gapDrift_X5_counted : GoodIn wsX5_gapDrift (wsV RX5 117 RX5 yX5_counted wsX5_counted) := goodIn_app (goodIn_of _ (by decide +kernel)) ggX5_gapDrift_X5_counted
theorem dX5_gapDrift_0 : decode cX5_gapDrift 0 = .ok (.ldc2_w 115, 3) := by decide +kernel
theorem dX5_gapDrift_3 : decode cX5_gapDrift 3 = .ok (.iload_n 3, 1) := by decide +kernel
theorem dX5_gapDrift_4 : decode cX5_gapDrift 4 = .ok (.iload_n 2, 1) := by decide +kernel
theorem dX5_gapDrift_5 : decode cX5_gapDrift 5 = .ok (.isub, 1) := by decide +kernel
theorem dX5_gapDrift_6 : decode cX5_gapDrift 6 = .ok (.aload_n 0, 1) := by decide +kernel
theorem dX5_gapDrift_7 : decode cX5_gapDrift 7 = .ok (.getfield 56, 3) := by decide +kernel
theorem dX5_gapDrift_10 : decode cX5_gapDrift 10 = .ok (.iload_n 1, 1) := by decide +kernel
theorem dX5_gapDrift_11 : decode cX5_gapDrift 11 = .ok (.iconst 1, 1) := by decide +kernel
theorem dX5_gapDrift_12 : decode cX5_gapDrift 12 = .ok (.isub, 1) := by decide +kernel
theorem dX5_gapDrift_13 : decode cX5_gapDrift 13 = .ok (.iaload, 1) := by decide +kernel
theorem dX5_gapDrift_14 : decode cX5_gapDrift 14 = .ok (.isub, 1) := by decide +kernel
theorem dX5_gapDrift_15 : decode cX5_gapDrift 15 = .ok (.i2l, 1) := by decide +kernel
theorem dX5_gapDrift_16 : decode cX5_gapDrift 16 = .ok (.lmul, 1) := by decide +kernel
theorem dX5_gapDrift_17 : decode cX5_gapDrift 17 = .ok (.aload_n 0, 1) := by decide +kernel
theorem dX5_gapDrift_18 : decode cX5_gapDrift 18 = .ok (.getfield 22, 3) := by decide +kernel
theorem dX5_gapDrift_21 : decode cX5_gapDrift 21 = .ok (.iload_n 1, 1) := by decide +kernel
theorem dX5_gapDrift_22 : decode cX5_gapDrift 22 = .ok (.iaload, 1) := by decide +kernel
theorem dX5_gapDrift_23 : decode cX5_gapDrift 23 = .ok (.aload_n 0, 1) := by decide +kernel
theorem dX5_gapDrift_24 : decode cX5_gapDrift 24 = .ok (.getfield 25, 3) := by decide +kernel
theorem dX5_gapDrift_27 : decode cX5_gapDrift 27 = .ok (.iload_n 1, 1) := by decide +kernel
theorem dX5_gapDrift_28 : decode cX5_gapDrift 28 = .ok (.iconst 1, 1) := by decide +kernel
theorem dX5_gapDrift_29 : decode cX5_gapDrift 29 = .ok (.isub, 1) := by decide +kernel
theorem dX5_gapDrift_30 : decode cX5_gapDrift 30 = .ok (.iaload, 1) := by decide +kernel
theorem dX5_gapDrift_31 : decode cX5_gapDrift 31 = .ok (.isub, 1) := by decide +kernel
theorem dX5_gapDrift_32 : decode cX5_gapDrift 32 = .ok (.i2l, 1) := by decide +kernel
theorem dX5_gapDrift_33 : decode cX5_gapDrift 33 = .ok (.iload 4, 2) := by decide +kernel
theorem dX5_gapDrift_35 : decode cX5_gapDrift 35 = .ok (.i2l, 1) := by decide +kernel
theorem dX5_gapDrift_36 : decode cX5_gapDrift 36 = .ok (.lmul, 1) := by decide +kernel
theorem dX5_gapDrift_37 : decode cX5_gapDrift 37 = .ok (.lsub, 1) := by decide +kernel
theorem dX5_gapDrift_38 : decode cX5_gapDrift 38 = .ok (.lstore 5, 2) := by decide +kernel
theorem dX5_gapDrift_40 : decode cX5_gapDrift 40 = .ok (.aload_n 0, 1) := by decide +kernel
theorem dX5_gapDrift_41 : decode cX5_gapDrift 41 = .ok (.lload 5, 2) := by decide +kernel
theorem dX5_gapDrift_43 : decode cX5_gapDrift 43 = .ok (.lconst 0, 1) := by decide +kernel
theorem dX5_gapDrift_44 : decode cX5_gapDrift 44 = .ok (.lcmp, 1) := by decide +kernel
theorem dX5_gapDrift_45 : decode cX5_gapDrift 45 = .ok (.ifCond .ge 12, 3) := by decide +kernel
theorem dX5_gapDrift_48 : decode cX5_gapDrift 48 = .ok (.ldc2_w 121, 3) := by decide +kernel
theorem dX5_gapDrift_51 : decode cX5_gapDrift 51 = .ok (.lload 5, 2) := by decide +kernel
theorem dX5_gapDrift_53 : decode cX5_gapDrift 53 = .ok (.lmul, 1) := by decide +kernel
theorem dX5_gapDrift_54 : decode cX5_gapDrift 54 = .ok (.goto 9, 3) := by decide +kernel
theorem dX5_gapDrift_57 : decode cX5_gapDrift 57 = .ok (.ldc2_w 123, 3) := by decide +kernel
theorem dX5_gapDrift_60 : decode cX5_gapDrift 60 = .ok (.lload 5, 2) := by decide +kernel
theorem dX5_gapDrift_62 : decode cX5_gapDrift 62 = .ok (.lmul, 1) := by decide +kernel
theorem dX5_gapDrift_63 : decode cX5_gapDrift 63 = .ok (.aload_n 0, 1) := by decide +kernel
theorem dX5_gapDrift_64 : decode cX5_gapDrift 64 = .ok (.getfield 13, 3) := by decide +kernel
theorem dX5_gapDrift_67 : decode cX5_gapDrift 67 = .ok (.iconst 2, 1) := by decide +kernel
theorem dX5_gapDrift_68 : decode cX5_gapDrift 68 = .ok (.iaload, 1) := by decide +kernel
theorem dX5_gapDrift_69 : decode cX5_gapDrift 69 = .ok (.invokevirtual 117, 3) := by decide +kernel
theorem dX5_gapDrift_72 : decode cX5_gapDrift 72 = .ok (.lreturn, 1) := by decide +kernel
set_option maxRecDepth 20000 in
theorem ggX5_layFit_X5_layStems : GoodIn wsX5_layFit wsX5_layStems := goodIn_r _ [12, 1, 13, 14, 15, 16, 17, 18, 19, 20, 21, 11, 22, 23, 24, 25, 26, 27, 28, 29, 30, 31, 32, 33, 34, 35, 36, 3, 37, 38, 39, 40, 41, 42, 43, 44, 68, 69, 70, 71, 72, 73, 74, 75, 76, 77, 78, 79, 80, 81, 82, 83, 84, 85, 86, 87, 88, 89, 90] (by decide +kernel) (by decide +kernel)
set_option maxRecDepth 20000 in
theorem gX5_layFit_X5_layStems : GoodIn wsX5_layFit (wsV RX5 108 RX5 yX5_layStems wsX5_layStems) := goodIn_app (goodIn_of _ (by decide +kernel)) ggX5_layFit_X5_layStems
set_option maxRecDepth 20000 in
theorem ggX5_layFit_X5_dotsOf : GoodIn wsX5_layFit wsX5_dotsOf := goodIn_r _ [48, 40, 39, 38, 68, 69, 70, 71, 72, 73, 74, 75, 76, 77, 78, 79, 80, 81, 82, 83, 84, 85, 86, 87, 88, 89, 90] (by decide +kernel) (by decide +kernel)
set_option maxRecDepth 20000 in
theorem gX5_layFit_X5_dotsOf : GoodIn wsX5_layFit (wsV RX5 111 RX5 yX5_dotsOf wsX5_dotsOf) := goodIn_app (goodIn_of _ (by decide +kernel)) ggX5_layFit_X5_dotsOf
set_option maxRecDepth 20000 in
theorem ggX5_layFit_X5_gapDrift : GoodIn wsX5_layFit wsX5_gapDrift := goodIn_r _ [52, 53, 2, 14, 15, 54, 55, 38, 56, 57, 58, 11, 59, 68, 69, 70, 71, 72, 73, 74, 75, 76, 77, 78, 79, 80, 81, 82, 83, 84, 85, 86, 87, 88, 89, 90] (by decide +kernel) (by decide +kernel)
set_option maxRecDepth 20000 in
theorem gX5_layFit_X5_gapDrift : GoodIn wsX5_layFit (wsV RX5 131 RX5 yX5_gapDrift wsX5_gapDrift) := goodIn_app (goodIn_of _ (by decide +kernel)) ggX5_layFit_X5_gapDrift
set_option maxRecDepth 20000 in
theorem ggX5_layFit_X5_both : GoodIn wsX5_layFit wsX5_both := goodIn_r _ [63, 38, 68, 69, 70, 71, 72, 73, 74, 75, 76, 77, 78, 79, 80, 81, 82, 83, 84, 85, 86, 87, 88, 89, 90] (by decide +kernel) (by decide +kernel)
set_option maxRecDepth 20000 in
theorem gX5_layFit_X5_both : GoodIn wsX5_layFit (wsV RX5 135 RX5 yX5_both wsX5_both) := goodIn_app (goodIn_of _ (by decide +kernel)) ggX5_layFit_X5_both
set_option maxRecDepth 20000 in
theorem ggX5_layFit_X5_stemDrift : GoodIn wsX5_layFit wsX5_stemDrift := goodIn_r _ [67, 53, 2, 14, 15, 38, 56, 57, 58, 11, 59, 68, 69, 70, 71, 72, 73, 74, 75, 76, 77, 78, 79, 80, 81, 82, 83, 84, 85, 86, 87, 88, 89, 90] (by decide +kernel) (by decide +kernel)
set_option maxRecDepth 20000 in
theorem gX5_layFit_X5_stemDrift : GoodIn wsX5_layFit (wsV RX5 139 RX5 yX5_stemDrift wsX5_stemDrift) := goodIn_app (goodIn_of _ (by decide +kernel)) ggX5_layFit_X5_stemDrift
theorem dX5_layFit_0 : decode cX5_layFit 0 = .ok (.aload_n 0, 1) := by decide +kernel
theorem dX5_layFit_1 : decode cX5_layFit 1 = .ok (.invokevirtual 108, 3) := by decide +kernel
theorem dX5_layFit_4 : decode cX5_layFit 4 = .ok (.iconst 0, 1) := by decide +kernel
theorem dX5_layFit_5 : decode cX5_layFit 5 = .ok (.istore_n 2, 1) := by decide +kernel
theorem dX5_layFit_6 : decode cX5_layFit 6 = .ok (.iload_n 2, 1) := by decide +kernel
theorem dX5_layFit_7 : decode cX5_layFit 7 = .ok (.aload_n 0, 1) := by decide +kernel
theorem dX5_layFit_8 : decode cX5_layFit 8 = .ok (.getfield 89, 3) := by decide +kernel
theorem dX5_layFit_11 : decode cX5_layFit 11 = .ok (.if_icmp .ge 26, 3) := by decide +kernel
theorem dX5_layFit_14 : decode cX5_layFit 14 = .ok (.aload_n 0, 1) := by decide +kernel
theorem dX5_layFit_15 : decode cX5_layFit 15 = .ok (.getfield 56, 3) := by decide +kernel
theorem dX5_layFit_18 : decode cX5_layFit 18 = .ok (.iload_n 2, 1) := by decide +kernel
theorem dX5_layFit_19 : decode cX5_layFit 19 = .ok (.aload_n 0, 1) := by decide +kernel
theorem dX5_layFit_20 : decode cX5_layFit 20 = .ok (.aload_n 0, 1) := by decide +kernel
theorem dX5_layFit_21 : decode cX5_layFit 21 = .ok (.getfield 34, 3) := by decide +kernel
theorem dX5_layFit_24 : decode cX5_layFit 24 = .ok (.iload_n 2, 1) := by decide +kernel
theorem dX5_layFit_25 : decode cX5_layFit 25 = .ok (.iaload, 1) := by decide +kernel
theorem dX5_layFit_26 : decode cX5_layFit 26 = .ok (.iload_n 1, 1) := by decide +kernel
theorem dX5_layFit_27 : decode cX5_layFit 27 = .ok (.invokevirtual 111, 3) := by decide +kernel
theorem dX5_layFit_30 : decode cX5_layFit 30 = .ok (.iastore, 1) := by decide +kernel
theorem dX5_layFit_31 : decode cX5_layFit 31 = .ok (.iinc 2 1, 3) := by decide +kernel
theorem dX5_layFit_34 : decode cX5_layFit 34 = .ok (.goto (-28), 3) := by decide +kernel
theorem dX5_layFit_37 : decode cX5_layFit 37 = .ok (.aload_n 0, 1) := by decide +kernel
theorem dX5_layFit_38 : decode cX5_layFit 38 = .ok (.lconst 0, 1) := by decide +kernel
theorem dX5_layFit_39 : decode cX5_layFit 39 = .ok (.putfield 125, 3) := by decide +kernel
theorem dX5_layFit_42 : decode cX5_layFit 42 = .ok (.aload_n 0, 1) := by decide +kernel
theorem dX5_layFit_43 : decode cX5_layFit 43 = .ok (.getfield 89, 3) := by decide +kernel
theorem dX5_layFit_46 : decode cX5_layFit 46 = .ok (.ifCond .ne 5, 3) := by decide +kernel
theorem dX5_layFit_49 : decode cX5_layFit 49 = .ok (.iconst 1, 1) := by decide +kernel
theorem dX5_layFit_50 : decode cX5_layFit 50 = .ok (.ireturn, 1) := by decide +kernel
theorem dX5_layFit_51 : decode cX5_layFit 51 = .ok (.aload_n 0, 1) := by decide +kernel
theorem dX5_layFit_52 : decode cX5_layFit 52 = .ok (.getfield 89, 3) := by decide +kernel
theorem dX5_layFit_55 : decode cX5_layFit 55 = .ok (.iconst 1, 1) := by decide +kernel
theorem dX5_layFit_56 : decode cX5_layFit 56 = .ok (.isub, 1) := by decide +kernel
theorem dX5_layFit_57 : decode cX5_layFit 57 = .ok (.istore_n 2, 1) := by decide +kernel
theorem dX5_layFit_58 : decode cX5_layFit 58 = .ok (.iload_n 2, 1) := by decide +kernel
theorem dX5_layFit_59 : decode cX5_layFit 59 = .ok (.ifCond .lt 208, 3) := by decide +kernel
theorem dX5_layFit_62 : decode cX5_layFit 62 = .ok (.iconst 0, 1) := by decide +kernel
theorem dX5_layFit_63 : decode cX5_layFit 63 = .ok (.istore_n 3, 1) := by decide +kernel
theorem dX5_layFit_64 : decode cX5_layFit 64 = .ok (.iload_n 3, 1) := by decide +kernel
theorem dX5_layFit_65 : decode cX5_layFit 65 = .ok (.bipush 60, 2) := by decide +kernel
theorem dX5_layFit_67 : decode cX5_layFit 67 = .ok (.if_icmp .gt 194, 3) := by decide +kernel
theorem dX5_layFit_70 : decode cX5_layFit 70 = .ok (.ldc2_w 129, 3) := by decide +kernel
theorem dX5_layFit_73 : decode cX5_layFit 73 = .ok (.lstore 4, 2) := by decide +kernel
