theorem dX0_init_0 : decode cX0_init 0 = .ok (.aload_n 0, 1) := by decide +kernel
theorem dX0_init_1 : decode cX0_init 1 = .ok (.invokespecial 3, 3) := by decide +kernel
theorem dX0_init_4 : decode cX0_init 4 = .ok (.aload_n 0, 1) := by decide +kernel
theorem dX0_init_5 : decode cX0_init 5 = .ok (.aload_n 1, 1) := by decide +kernel
theorem dX0_init_6 : decode cX0_init 6 = .ok (.putfield 9, 3) := by decide +kernel
theorem dX0_init_9 : decode cX0_init 9 = .ok (.aload_n 0, 1) := by decide +kernel
theorem dX0_init_10 : decode cX0_init 10 = .ok (.aload_n 2, 1) := by decide +kernel
theorem dX0_init_11 : decode cX0_init 11 = .ok (.putfield 15, 3) := by decide +kernel
theorem dX0_init_14 : decode cX0_init 14 = .ok (.aload_n 0, 1) := by decide +kernel
theorem dX0_init_15 : decode cX0_init 15 = .ok (.bipush 61, 2) := by decide +kernel
theorem dX0_init_17 : decode cX0_init 17 = .ok (.newarray .long, 2) := by decide +kernel
theorem dX0_init_19 : decode cX0_init 19 = .ok (.putfield 19, 3) := by decide +kernel
theorem dX0_init_22 : decode cX0_init 22 = .ok (.aload_n 0, 1) := by decide +kernel
theorem dX0_init_23 : decode cX0_init 23 = .ok (.bipush 61, 2) := by decide +kernel
theorem dX0_init_25 : decode cX0_init 25 = .ok (.newarray .int, 2) := by decide +kernel
theorem dX0_init_27 : decode cX0_init 27 = .ok (.putfield 23, 3) := by decide +kernel
theorem dX0_init_30 : decode cX0_init 30 = .ok (.aload_n 0, 1) := by decide +kernel
theorem dX0_init_31 : decode cX0_init 31 = .ok (.bipush 61, 2) := by decide +kernel
theorem dX0_init_33 : decode cX0_init 33 = .ok (.newarray .boolean, 2) := by decide +kernel
theorem dX0_init_35 : decode cX0_init 35 = .ok (.putfield 27, 3) := by decide +kernel
theorem dX0_init_38 : decode cX0_init 38 = .ok (.aload_n 0, 1) := by decide +kernel
theorem dX0_init_39 : decode cX0_init 39 = .ok (.sipush 488, 3) := by decide +kernel
theorem dX0_init_42 : decode cX0_init 42 = .ok (.newarray .int, 2) := by decide +kernel
theorem dX0_init_44 : decode cX0_init 44 = .ok (.putfield 31, 3) := by decide +kernel
theorem dX0_init_47 : decode cX0_init 47 = .ok (.aload_n 0, 1) := by decide +kernel
theorem dX0_init_48 : decode cX0_init 48 = .ok (.bipush 8, 2) := by decide +kernel
theorem dX0_init_50 : decode cX0_init 50 = .ok (.newarray .int, 2) := by decide +kernel
theorem dX0_init_52 : decode cX0_init 52 = .ok (.putfield 34, 3) := by decide +kernel
theorem dX0_init_55 : decode cX0_init 55 = .ok (.aload_n 0, 1) := by decide +kernel
theorem dX0_init_56 : decode cX0_init 56 = .ok (.bipush 8, 2) := by decide +kernel
theorem dX0_init_58 : decode cX0_init 58 = .ok (.newarray .int, 2) := by decide +kernel
theorem dX0_init_60 : decode cX0_init 60 = .ok (.putfield 37, 3) := by decide +kernel
theorem dX0_init_63 : decode cX0_init 63 = .ok (.aload_n 0, 1) := by decide +kernel
theorem dX0_init_64 : decode cX0_init 64 = .ok (.sipush 480, 3) := by decide +kernel
theorem dX0_init_67 : decode cX0_init 67 = .ok (.newarray .long, 2) := by decide +kernel
theorem dX0_init_69 : decode cX0_init 69 = .ok (.putfield 40, 3) := by decide +kernel
theorem dX0_init_72 : decode cX0_init 72 = .ok (.aload_n 0, 1) := by decide +kernel
theorem dX0_init_73 : decode cX0_init 73 = .ok (.bipush 60, 2) := by decide +kernel
theorem dX0_init_75 : decode cX0_init 75 = .ok (.newarray .long, 2) := by decide +kernel
theorem dX0_init_77 : decode cX0_init 77 = .ok (.putfield 43, 3) := by decide +kernel
theorem dX0_init_80 : decode cX0_init 80 = .ok (.return_, 1) := by decide +kernel
theorem dX0_forget_0 : decode cX0_forget 0 = .ok (.iconst 0, 1) := by decide +kernel
theorem dX0_forget_1 : decode cX0_forget 1 = .ok (.istore_n 1, 1) := by decide +kernel
theorem dX0_forget_2 : decode cX0_forget 2 = .ok (.iload_n 1, 1) := by decide +kernel
theorem dX0_forget_3 : decode cX0_forget 3 = .ok (.bipush 60, 2) := by decide +kernel
theorem dX0_forget_5 : decode cX0_forget 5 = .ok (.if_icmp .gt 16, 3) := by decide +kernel
theorem dX0_forget_8 : decode cX0_forget 8 = .ok (.aload_n 0, 1) := by decide +kernel
theorem dX0_forget_9 : decode cX0_forget 9 = .ok (.getfield 27, 3) := by decide +kernel
theorem dX0_forget_12 : decode cX0_forget 12 = .ok (.iload_n 1, 1) := by decide +kernel
theorem dX0_forget_13 : decode cX0_forget 13 = .ok (.iconst 0, 1) := by decide +kernel
theorem dX0_forget_14 : decode cX0_forget 14 = .ok (.bastore, 1) := by decide +kernel
theorem dX0_forget_15 : decode cX0_forget 15 = .ok (.iinc 1 1, 3) := by decide +kernel
theorem dX0_forget_18 : decode cX0_forget 18 = .ok (.goto (-16), 3) := by decide +kernel
theorem dX0_forget_21 : decode cX0_forget 21 = .ok (.return_, 1) := by decide +kernel
set_option maxRecDepth 20000 in
theorem ggX0_isAt_X0_workOut : GoodIn wsX0_isAt wsX0_workOut := goodIn_r _ [7, 8, 2, 9, 10, 11, 12, 13, 14, 6, 15, 16, 17, 18, 19, 20, 21, 22, 23, 24, 25, 26, 27, 28, 29, 30, 31, 32, 33, 34, 35, 36, 37, 38, 39, 40, 41, 42, 43, 44, 45, 46, 47, 48, 49, 50, 51, 52, 53, 54, 55, 56, 57, 58, 59, 60, 61, 62, 63, 64, 65, 66, 67, 68, 69, 70, 71, 72, 73, 74, 75, 76, 77, 78, 79, 80, 81, 82, 83, 84, 85, 86, 87, 88, 89, 90, 91, 92, 93, 94, 95, 96, 97, 98, 99, 100, 101, 102, 103, 104, 105, 106, 107, 108, 109, 110, 111, 112, 113, 114, 115, 116, 117, 118, 119, 120, 121, 122, 123, 124, 125, 126, 127, 128, 129, 130, 131, 132] (by decide +kernel) (by decide +kernel)
set_option maxRecDepth 20000 in
theorem gX0_isAt_X0_workOut : GoodIn wsX0_isAt (wsV RX0 46 RX0 yX0_workOut wsX0_workOut) := goodIn_app (goodIn_of _ (by decide +kernel)) ggX0_isAt_X0_workOut
theorem dX0_isAt_0 : decode cX0_isAt 0 = .ok (.aload_n 0, 1) := by decide +kernel
theorem dX0_isAt_1 : decode cX0_isAt 1 = .ok (.getfield 27, 3) := by decide +kernel
theorem dX0_isAt_4 : decode cX0_isAt 4 = .ok (.iload_n 1, 1) := by decide +kernel
theorem dX0_isAt_5 : decode cX0_isAt 5 = .ok (.baload, 1) := by decide +kernel
theorem dX0_isAt_6 : decode cX0_isAt 6 = .ok (.ifCond .ne 15, 3) := by decide +kernel
theorem dX0_isAt_9 : decode cX0_isAt 9 = .ok (.aload_n 0, 1) := by decide +kernel
theorem dX0_isAt_10 : decode cX0_isAt 10 = .ok (.iload_n 1, 1) := by decide +kernel
theorem dX0_isAt_11 : decode cX0_isAt 11 = .ok (.invokevirtual 46, 3) := by decide +kernel
theorem dX0_isAt_14 : decode cX0_isAt 14 = .ok (.aload_n 0, 1) := by decide +kernel
theorem dX0_isAt_15 : decode cX0_isAt 15 = .ok (.getfield 27, 3) := by decide +kernel
theorem dX0_isAt_18 : decode cX0_isAt 18 = .ok (.iload_n 1, 1) := by decide +kernel
theorem dX0_isAt_19 : decode cX0_isAt 19 = .ok (.iconst 1, 1) := by decide +kernel
theorem dX0_isAt_20 : decode cX0_isAt 20 = .ok (.bastore, 1) := by decide +kernel
theorem dX0_isAt_21 : decode cX0_isAt 21 = .ok (.aload_n 0, 1) := by decide +kernel
theorem dX0_isAt_22 : decode cX0_isAt 22 = .ok (.getfield 23, 3) := by decide +kernel
theorem dX0_isAt_25 : decode cX0_isAt 25 = .ok (.iload_n 1, 1) := by decide +kernel
theorem dX0_isAt_26 : decode cX0_isAt 26 = .ok (.iaload, 1) := by decide +kernel
theorem dX0_isAt_27 : decode cX0_isAt 27 = .ok (.bipush (-6), 2) := by decide +kernel
theorem dX0_isAt_29 : decode cX0_isAt 29 = .ok (.if_icmp .ne 7, 3) := by decide +kernel
theorem dX0_isAt_32 : decode cX0_isAt 32 = .ok (.iconst 1, 1) := by decide +kernel
theorem dX0_isAt_33 : decode cX0_isAt 33 = .ok (.goto 4, 3) := by decide +kernel
theorem dX0_isAt_36 : decode cX0_isAt 36 = .ok (.iconst 0, 1) := by decide +kernel
theorem dX0_isAt_37 : decode cX0_isAt 37 = .ok (.ireturn, 1) := by decide +kernel
theorem dX0_leftDot_0 : decode cX0_leftDot 0 = .ok (.aload_n 0, 1) := by decide +kernel
theorem dX0_leftDot_1 : decode cX0_leftDot 1 = .ok (.getfield 31, 3) := by decide +kernel
theorem dX0_leftDot_4 : decode cX0_leftDot 4 = .ok (.iload_n 1, 1) := by decide +kernel
theorem dX0_leftDot_5 : decode cX0_leftDot 5 = .ok (.bipush 8, 2) := by decide +kernel
theorem dX0_leftDot_7 : decode cX0_leftDot 7 = .ok (.imul, 1) := by decide +kernel
theorem dX0_leftDot_8 : decode cX0_leftDot 8 = .ok (.iload_n 2, 1) := by decide +kernel
theorem dX0_leftDot_9 : decode cX0_leftDot 9 = .ok (.iadd, 1) := by decide +kernel
theorem dX0_leftDot_10 : decode cX0_leftDot 10 = .ok (.iaload, 1) := by decide +kernel
theorem dX0_leftDot_11 : decode cX0_leftDot 11 = .ok (.ireturn, 1) := by decide +kernel
set_option maxRecDepth 20000 in
theorem ggX0_drawn_X0_leftDot : GoodIn wsX0_drawn wsX0_leftDot := goodIn_r _ [11, 12, 33, 34, 35, 36, 37, 38, 39, 40, 41, 42, 43, 44] (by decide +kernel) (by decide +kernel)
set_option maxRecDepth 20000 in
theorem gX0_drawn_X0_leftDot : GoodIn wsX0_drawn (wsV RX0 59 RX0 yX0_leftDot wsX0_leftDot) := goodIn_app (goodIn_of _ (by decide +kernel)) ggX0_drawn_X0_leftDot
set_option maxRecDepth 20000 in
theorem ggX0_drawn_X3_dotsOfStem : GoodIn wsX0_drawn wsX3_dotsOfStem := goodIn_r _ [17, 18, 19, 20, 21, 16, 22, 23, 24, 25, 26, 27, 28, 29, 30, 31, 32, 45, 46, 47, 48, 49, 50, 51, 52, 53, 54, 55] (by decide +kernel) (by decide +kernel)
set_option maxRecDepth 20000 in
theorem gX0_drawn_X3_dotsOfStem : GoodIn wsX0_drawn (wsV RX0 71 RX3 yX3_dotsOfStem wsX3_dotsOfStem) := goodIn_app (goodIn_of _ (by decide +kernel)) ggX0_drawn_X3_dotsOfStem
theorem dX0_drawn_0 : decode cX0_drawn 0 = .ok (.aload_n 0, 1) := by decide +kernel
theorem dX0_drawn_1 : decode cX0_drawn 1 = .ok (.getfield 15, 3) := by decide +kernel
theorem dX0_drawn_4 : decode cX0_drawn 4 = .ok (.getfield 50, 3) := by decide +kernel
theorem dX0_drawn_7 : decode cX0_drawn 7 = .ok (.ifCond .ne 7, 3) := by decide +kernel
theorem dX0_drawn_10 : decode cX0_drawn 10 = .ok (.iload_n 2, 1) := by decide +kernel
theorem dX0_drawn_11 : decode cX0_drawn 11 = .ok (.iload_n 1, 1) := by decide +kernel
theorem dX0_drawn_12 : decode cX0_drawn 12 = .ok (.imul, 1) := by decide +kernel
theorem dX0_drawn_13 : decode cX0_drawn 13 = .ok (.ireturn, 1) := by decide +kernel
theorem dX0_drawn_14 : decode cX0_drawn 14 = .ok (.aload_n 0, 1) := by decide +kernel
theorem dX0_drawn_15 : decode cX0_drawn 15 = .ok (.getfield 15, 3) := by decide +kernel
theorem dX0_drawn_18 : decode cX0_drawn 18 = .ok (.getfield 56, 3) := by decide +kernel
theorem dX0_drawn_21 : decode cX0_drawn 21 = .ok (.iconst 0, 1) := by decide +kernel
theorem dX0_drawn_22 : decode cX0_drawn 22 = .ok (.iaload, 1) := by decide +kernel
theorem dX0_drawn_23 : decode cX0_drawn 23 = .ok (.istore_n 3, 1) := by decide +kernel
theorem dX0_drawn_24 : decode cX0_drawn 24 = .ok (.sipush 1000, 3) := by decide +kernel
theorem dX0_drawn_27 : decode cX0_drawn 27 = .ok (.aload_n 0, 1) := by decide +kernel
theorem dX0_drawn_28 : decode cX0_drawn 28 = .ok (.iload_n 1, 1) := by decide +kernel
theorem dX0_drawn_29 : decode cX0_drawn 29 = .ok (.iconst 0, 1) := by decide +kernel
theorem dX0_drawn_30 : decode cX0_drawn 30 = .ok (.invokevirtual 59, 3) := by decide +kernel
theorem dX0_drawn_33 : decode cX0_drawn 33 = .ok (.imul, 1) := by decide +kernel
theorem dX0_drawn_34 : decode cX0_drawn 34 = .ok (.istore 4, 2) := by decide +kernel
theorem dX0_drawn_36 : decode cX0_drawn 36 = .ok (.iload_n 2, 1) := by decide +kernel
theorem dX0_drawn_37 : decode cX0_drawn 37 = .ok (.iload_n 3, 1) := by decide +kernel
theorem dX0_drawn_38 : decode cX0_drawn 38 = .ok (.if_icmp .gt 12, 3) := by decide +kernel
theorem dX0_drawn_41 : decode cX0_drawn 41 = .ok (.iload 4, 2) := by decide +kernel
theorem dX0_drawn_43 : decode cX0_drawn 43 = .ok (.iload_n 3, 1) := by decide +kernel
theorem dX0_drawn_44 : decode cX0_drawn 44 = .ok (.iload_n 2, 1) := by decide +kernel
theorem dX0_drawn_45 : decode cX0_drawn 45 = .ok (.isub, 1) := by decide +kernel
theorem dX0_drawn_46 : decode cX0_drawn 46 = .ok (.iload_n 1, 1) := by decide +kernel
theorem dX0_drawn_47 : decode cX0_drawn 47 = .ok (.imul, 1) := by decide +kernel
theorem dX0_drawn_48 : decode cX0_drawn 48 = .ok (.isub, 1) := by decide +kernel
theorem dX0_drawn_49 : decode cX0_drawn 49 = .ok (.ireturn, 1) := by decide +kernel
theorem dX0_drawn_50 : decode cX0_drawn 50 = .ok (.iconst 1, 1) := by decide +kernel
theorem dX0_drawn_51 : decode cX0_drawn 51 = .ok (.istore 5, 2) := by decide +kernel
theorem dX0_drawn_53 : decode cX0_drawn 53 = .ok (.iload 5, 2) := by decide +kernel
theorem dX0_drawn_55 : decode cX0_drawn 55 = .ok (.iconst 2, 1) := by decide +kernel
theorem dX0_drawn_56 : decode cX0_drawn 56 = .ok (.aload_n 0, 1) := by decide +kernel
theorem dX0_drawn_57 : decode cX0_drawn 57 = .ok (.getfield 15, 3) := by decide +kernel
theorem dX0_drawn_60 : decode cX0_drawn 60 = .ok (.getfield 50, 3) := by decide +kernel
theorem dX0_drawn_63 : decode cX0_drawn 63 = .ok (.imul, 1) := by decide +kernel
theorem dX0_drawn_64 : decode cX0_drawn 64 = .ok (.if_icmp .ge 143, 3) := by decide +kernel
theorem dX0_drawn_67 : decode cX0_drawn 67 = .ok (.iload 5, 2) := by decide +kernel
theorem dX0_drawn_69 : decode cX0_drawn 69 = .ok (.iconst 2, 1) := by decide +kernel
theorem dX0_drawn_70 : decode cX0_drawn 70 = .ok (.idiv, 1) := by decide +kernel
theorem dX0_drawn_71 : decode cX0_drawn 71 = .ok (.istore 6, 2) := by decide +kernel
theorem dX0_drawn_73 : decode cX0_drawn 73 = .ok (.iload 5, 2) := by decide +kernel
theorem dX0_drawn_75 : decode cX0_drawn 75 = .ok (.iconst 2, 1) := by decide +kernel
theorem dX0_drawn_76 : decode cX0_drawn 76 = .ok (.irem, 1) := by decide +kernel
theorem dX0_drawn_77 : decode cX0_drawn 77 = .ok (.iconst 1, 1) := by decide +kernel
theorem dX0_drawn_78 : decode cX0_drawn 78 = .ok (.if_icmp .ne 7, 3) := by decide +kernel
theorem dX0_drawn_81 : decode cX0_drawn 81 = .ok (.iconst 1, 1) := by decide +kernel
theorem dX0_drawn_82 : decode cX0_drawn 82 = .ok (.goto 4, 3) := by decide +kernel
theorem dX0_drawn_85 : decode cX0_drawn 85 = .ok (.iconst 0, 1) := by decide +kernel
theorem dX0_drawn_86 : decode cX0_drawn 86 = .ok (.istore 7, 2) := by decide +kernel
theorem dX0_drawn_88 : decode cX0_drawn 88 = .ok (.iload 7, 2) := by decide +kernel
theorem dX0_drawn_90 : decode cX0_drawn 90 = .ok (.ifCond .eq 16, 3) := by decide +kernel
theorem dX0_drawn_93 : decode cX0_drawn 93 = .ok (.aload_n 0, 1) := by decide +kernel
theorem dX0_drawn_94 : decode cX0_drawn 94 = .ok (.getfield 15, 3) := by decide +kernel
theorem dX0_drawn_97 : decode cX0_drawn 97 = .ok (.getfield 63, 3) := by decide +kernel
theorem dX0_drawn_100 : decode cX0_drawn 100 = .ok (.iload 6, 2) := by decide +kernel
theorem dX0_drawn_102 : decode cX0_drawn 102 = .ok (.iaload, 1) := by decide +kernel
theorem dX0_drawn_103 : decode cX0_drawn 103 = .ok (.goto 13, 3) := by decide +kernel
theorem dX0_drawn_106 : decode cX0_drawn 106 = .ok (.aload_n 0, 1) := by decide +kernel
theorem dX0_drawn_107 : decode cX0_drawn 107 = .ok (.getfield 15, 3) := by decide +kernel
theorem dX0_drawn_110 : decode cX0_drawn 110 = .ok (.getfield 56, 3) := by decide +kernel
theorem dX0_drawn_113 : decode cX0_drawn 113 = .ok (.iload 6, 2) := by decide +kernel
theorem dX0_drawn_115 : decode cX0_drawn 115 = .ok (.iaload, 1) := by decide +kernel
theorem dX0_drawn_116 : decode cX0_drawn 116 = .ok (.istore 8, 2) := by decide +kernel
theorem dX0_drawn_118 : decode cX0_drawn 118 = .ok (.aload_n 0, 1) := by decide +kernel
theorem dX0_drawn_119 : decode cX0_drawn 119 = .ok (.iload_n 1, 1) := by decide +kernel
theorem dX0_drawn_120 : decode cX0_drawn 120 = .ok (.iload 6, 2) := by decide +kernel
theorem dX0_drawn_122 : decode cX0_drawn 122 = .ok (.invokevirtual 59, 3) := by decide +kernel
theorem dX0_drawn_125 : decode cX0_drawn 125 = .ok (.iload 7, 2) := by decide +kernel
theorem dX0_drawn_127 : decode cX0_drawn 127 = .ok (.ifCond .eq 25, 3) := by decide +kernel
theorem dX0_drawn_130 : decode cX0_drawn 130 = .ok (.aload_n 0, 1) := by decide +kernel
theorem dX0_drawn_131 : decode cX0_drawn 131 = .ok (.getfield 15, 3) := by decide +kernel
theorem dX0_drawn_134 : decode cX0_drawn 134 = .ok (.iload 6, 2) := by decide +kernel
theorem dX0_drawn_136 : decode cX0_drawn 136 = .ok (.iload_n 1, 1) := by decide +kernel
theorem dX0_drawn_137 : decode cX0_drawn 137 = .ok (.aload_n 0, 1) := by decide +kernel
theorem dX0_drawn_138 : decode cX0_drawn 138 = .ok (.getfield 9, 3) := by decide +kernel
theorem dX0_drawn_141 : decode cX0_drawn 141 = .ok (.getfield 66, 3) := by decide +kernel
theorem dX0_drawn_144 : decode cX0_drawn 144 = .ok (.iconst 4, 1) := by decide +kernel
theorem dX0_drawn_145 : decode cX0_drawn 145 = .ok (.iaload, 1) := by decide +kernel
theorem dX0_drawn_146 : decode cX0_drawn 146 = .ok (.invokevirtual 71, 3) := by decide +kernel
theorem dX0_drawn_149 : decode cX0_drawn 149 = .ok (.goto 4, 3) := by decide +kernel
theorem dX0_drawn_152 : decode cX0_drawn 152 = .ok (.iconst 0, 1) := by decide +kernel
theorem dX0_drawn_153 : decode cX0_drawn 153 = .ok (.iadd, 1) := by decide +kernel
theorem dX0_drawn_154 : decode cX0_drawn 154 = .ok (.istore 9, 2) := by decide +kernel
theorem dX0_drawn_156 : decode cX0_drawn 156 = .ok (.iload_n 2, 1) := by decide +kernel
theorem dX0_drawn_157 : decode cX0_drawn 157 = .ok (.iload 8, 2) := by decide +kernel
theorem dX0_drawn_159 : decode cX0_drawn 159 = .ok (.if_icmp .gt 31, 3) := by decide +kernel
theorem dX0_drawn_162 : decode cX0_drawn 162 = .ok (.iload 8, 2) := by decide +kernel
theorem dX0_drawn_164 : decode cX0_drawn 164 = .ok (.iload_n 3, 1) := by decide +kernel
theorem dX0_drawn_165 : decode cX0_drawn 165 = .ok (.if_icmp .le 25, 3) := by decide +kernel
theorem dX0_drawn_168 : decode cX0_drawn 168 = .ok (.iload 4, 2) := by decide +kernel
theorem dX0_drawn_170 : decode cX0_drawn 170 = .ok (.iload_n 2, 1) := by decide +kernel
theorem dX0_drawn_171 : decode cX0_drawn 171 = .ok (.iload_n 3, 1) := by decide +kernel
theorem dX0_drawn_172 : decode cX0_drawn 172 = .ok (.isub, 1) := by decide +kernel
theorem dX0_drawn_173 : decode cX0_drawn 173 = .ok (.sipush 1000, 3) := by decide +kernel
theorem dX0_drawn_176 : decode cX0_drawn 176 = .ok (.iload 9, 2) := by decide +kernel
theorem dX0_drawn_178 : decode cX0_drawn 178 = .ok (.imul, 1) := by decide +kernel
theorem dX0_drawn_179 : decode cX0_drawn 179 = .ok (.iload 4, 2) := by decide +kernel
theorem dX0_drawn_181 : decode cX0_drawn 181 = .ok (.isub, 1) := by decide +kernel
theorem dX0_drawn_182 : decode cX0_drawn 182 = .ok (.imul, 1) := by decide +kernel
theorem dX0_drawn_183 : decode cX0_drawn 183 = .ok (.iload 8, 2) := by decide +kernel
theorem dX0_drawn_185 : decode cX0_drawn 185 = .ok (.iload_n 3, 1) := by decide +kernel
theorem dX0_drawn_186 : decode cX0_drawn 186 = .ok (.isub, 1) := by decide +kernel
theorem dX0_drawn_187 : decode cX0_drawn 187 = .ok (.idiv, 1) := by decide +kernel
theorem dX0_drawn_188 : decode cX0_drawn 188 = .ok (.iadd, 1) := by decide +kernel
theorem dX0_drawn_189 : decode cX0_drawn 189 = .ok (.ireturn, 1) := by decide +kernel
theorem dX0_drawn_190 : decode cX0_drawn 190 = .ok (.iload 8, 2) := by decide +kernel
theorem dX0_drawn_192 : decode cX0_drawn 192 = .ok (.istore_n 3, 1) := by decide +kernel
theorem dX0_drawn_193 : decode cX0_drawn 193 = .ok (.sipush 1000, 3) := by decide +kernel
theorem dX0_drawn_196 : decode cX0_drawn 196 = .ok (.iload 9, 2) := by decide +kernel
theorem dX0_drawn_198 : decode cX0_drawn 198 = .ok (.imul, 1) := by decide +kernel
theorem dX0_drawn_199 : decode cX0_drawn 199 = .ok (.istore 4, 2) := by decide +kernel
theorem dX0_drawn_201 : decode cX0_drawn 201 = .ok (.iinc 5 1, 3) := by decide +kernel
theorem dX0_drawn_204 : decode cX0_drawn 204 = .ok (.goto (-151), 3) := by decide +kernel
theorem dX0_drawn_207 : decode cX0_drawn 207 = .ok (.iload 4, 2) := by decide +kernel
theorem dX0_drawn_209 : decode cX0_drawn 209 = .ok (.iload_n 2, 1) := by decide +kernel
theorem dX0_drawn_210 : decode cX0_drawn 210 = .ok (.iload_n 3, 1) := by decide +kernel
theorem dX0_drawn_211 : decode cX0_drawn 211 = .ok (.isub, 1) := by decide +kernel
theorem dX0_drawn_212 : decode cX0_drawn 212 = .ok (.iload_n 1, 1) := by decide +kernel
theorem dX0_drawn_213 : decode cX0_drawn 213 = .ok (.imul, 1) := by decide +kernel
theorem dX0_drawn_214 : decode cX0_drawn 214 = .ok (.iadd, 1) := by decide +kernel
theorem dX0_drawn_215 : decode cX0_drawn 215 = .ok (.ireturn, 1) := by decide +kernel
set_option maxRecDepth 20000 in
theorem ggX0_workOut_X0_layLeftmost : GoodIn wsX0_workOut wsX0_layLeftmost := goodIn_r _ [10, 11, 4, 5, 12, 1, 13, 14, 15, 16, 17, 18, 19, 20, 21, 22, 23, 24, 25, 26, 27, 28, 29, 30, 31, 32, 33, 34, 35, 99, 100, 101, 102, 103, 104, 105, 106, 107, 108, 109, 110, 111, 112, 113, 114, 115, 116, 117, 118, 119, 120, 121, 122, 123, 124, 125, 126, 127] (by decide +kernel) (by decide +kernel)
set_option maxRecDepth 20000 in
theorem gX0_workOut_X0_layLeftmost : GoodIn wsX0_workOut (wsV RX0 78 RX0 yX0_layLeftmost wsX0_layLeftmost) := goodIn_app (goodIn_of _ (by decide +kernel)) ggX0_workOut_X0_layLeftmost
set_option maxRecDepth 20000 in
theorem ggX0_workOut_X0_weighRests : GoodIn wsX0_workOut wsX0_weighRests := goodIn_r _ [39, 4, 5, 11, 40, 41, 42, 43, 9, 44, 45, 46, 47, 48, 49, 50, 51, 1, 52, 53, 28, 54, 13, 14, 55, 56, 57, 58, 59, 60, 61, 62, 63, 64, 65, 66, 67, 68, 69, 70, 15, 12, 71, 72, 73, 74, 75, 76, 77, 78, 79, 80, 81, 99, 100, 101, 102, 103, 104, 105, 106, 107, 108, 109, 110, 111, 112, 113, 114, 115, 116, 117, 118, 119, 120, 121, 122, 123, 124, 125, 126, 127] (by decide +kernel) (by decide +kernel)
set_option maxRecDepth 20000 in
theorem gX0_workOut_X0_weighRests : GoodIn wsX0_workOut (wsV RX0 82 RX0 yX0_weighRests wsX0_weighRests) := goodIn_app (goodIn_of _ (by decide +kernel)) ggX0_workOut_X0_weighRests
set_option maxRecDepth 20000 in
theorem ggX0_workOut_X0_leastRest : GoodIn wsX0_workOut wsX0_leastRest := goodIn_r _ [85, 40, 11, 64, 65, 28, 66, 99, 100, 101, 102, 103, 104, 105, 106, 107, 108, 109, 110] (by decide +kernel) (by decide +kernel)
set_option maxRecDepth 20000 in
theorem gX0_workOut_X0_leastRest : GoodIn wsX0_workOut (wsV RX0 85 RX0 yX0_leastRest wsX0_leastRest) := goodIn_app (goodIn_of _ (by decide +kernel)) ggX0_workOut_X0_leastRest
set_option maxRecDepth 20000 in
theorem ggX0_workOut_X0_layLeast : GoodIn wsX0_workOut wsX0_layLeast := goodIn_r _ [89, 3, 1, 4, 5, 11, 90, 15, 91, 92, 93, 9, 94, 40, 46, 47, 48, 49, 50, 51, 52, 53, 28, 54, 13, 14, 55, 56, 57, 58, 59, 71, 72, 73, 74, 75, 76, 77, 78, 79, 80, 81, 67, 68, 69, 70, 12, 95, 96, 97, 98, 99, 100, 101, 102, 103, 104, 105, 106, 107, 108, 109, 110, 111, 112, 113, 114, 115, 116, 117, 118, 119, 120, 121, 122, 123, 124, 125, 126, 127] (by decide +kernel) (by decide +kernel)
set_option maxRecDepth 20000 in
theorem gX0_workOut_X0_layLeast : GoodIn wsX0_workOut (wsV RX0 89 RX0 yX0_layLeast wsX0_layLeast) := goodIn_app (goodIn_of _ (by decide +kernel)) ggX0_workOut_X0_layLeast
theorem dX0_workOut_0 : decode cX0_workOut 0 = .ok (.aload_n 0, 1) := by decide +kernel
theorem dX0_workOut_1 : decode cX0_workOut 1 = .ok (.iload_n 1, 1) := by decide +kernel
theorem dX0_workOut_2 : decode cX0_workOut 2 = .ok (.putfield 75, 3) := by decide +kernel
theorem dX0_workOut_5 : decode cX0_workOut 5 = .ok (.aload_n 0, 1) := by decide +kernel
theorem dX0_workOut_6 : decode cX0_workOut 6 = .ok (.getfield 23, 3) := by decide +kernel
theorem dX0_workOut_9 : decode cX0_workOut 9 = .ok (.iload_n 1, 1) := by decide +kernel
theorem dX0_workOut_10 : decode cX0_workOut 10 = .ok (.aload_n 0, 1) := by decide +kernel
theorem dX0_workOut_11 : decode cX0_workOut 11 = .ok (.invokevirtual 78, 3) := by decide +kernel
theorem dX0_workOut_14 : decode cX0_workOut 14 = .ok (.iastore, 1) := by decide +kernel
theorem dX0_workOut_15 : decode cX0_workOut 15 = .ok (.aload_n 0, 1) := by decide +kernel
theorem dX0_workOut_16 : decode cX0_workOut 16 = .ok (.getfield 23, 3) := by decide +kernel
theorem dX0_workOut_19 : decode cX0_workOut 19 = .ok (.iload_n 1, 1) := by decide +kernel
theorem dX0_workOut_20 : decode cX0_workOut 20 = .ok (.iaload, 1) := by decide +kernel
theorem dX0_workOut_21 : decode cX0_workOut 21 = .ok (.bipush (-6), 2) := by decide +kernel
theorem dX0_workOut_23 : decode cX0_workOut 23 = .ok (.if_icmp .eq 4, 3) := by decide +kernel
theorem dX0_workOut_26 : decode cX0_workOut 26 = .ok (.return_, 1) := by decide +kernel
theorem dX0_workOut_27 : decode cX0_workOut 27 = .ok (.aload_n 0, 1) := by decide +kernel
theorem dX0_workOut_28 : decode cX0_workOut 28 = .ok (.getfield 19, 3) := by decide +kernel
theorem dX0_workOut_31 : decode cX0_workOut 31 = .ok (.iload_n 1, 1) := by decide +kernel
theorem dX0_workOut_32 : decode cX0_workOut 32 = .ok (.lconst 0, 1) := by decide +kernel
theorem dX0_workOut_33 : decode cX0_workOut 33 = .ok (.lastore, 1) := by decide +kernel
theorem dX0_workOut_34 : decode cX0_workOut 34 = .ok (.aload_n 0, 1) := by decide +kernel
theorem dX0_workOut_35 : decode cX0_workOut 35 = .ok (.getfield 15, 3) := by decide +kernel
theorem dX0_workOut_38 : decode cX0_workOut 38 = .ok (.getfield 50, 3) := by decide +kernel
theorem dX0_workOut_41 : decode cX0_workOut 41 = .ok (.ifCond .le 21, 3) := by decide +kernel
theorem dX0_workOut_44 : decode cX0_workOut 44 = .ok (.aload_n 0, 1) := by decide +kernel
theorem dX0_workOut_45 : decode cX0_workOut 45 = .ok (.invokevirtual 82, 3) := by decide +kernel
theorem dX0_workOut_48 : decode cX0_workOut 48 = .ok (.aload_n 0, 1) := by decide +kernel
theorem dX0_workOut_49 : decode cX0_workOut 49 = .ok (.getfield 19, 3) := by decide +kernel
theorem dX0_workOut_52 : decode cX0_workOut 52 = .ok (.iload_n 1, 1) := by decide +kernel
theorem dX0_workOut_53 : decode cX0_workOut 53 = .ok (.aload_n 0, 1) := by decide +kernel
theorem dX0_workOut_54 : decode cX0_workOut 54 = .ok (.invokevirtual 85, 3) := by decide +kernel
theorem dX0_workOut_57 : decode cX0_workOut 57 = .ok (.lastore, 1) := by decide +kernel
theorem dX0_workOut_58 : decode cX0_workOut 58 = .ok (.aload_n 0, 1) := by decide +kernel
theorem dX0_workOut_59 : decode cX0_workOut 59 = .ok (.invokevirtual 89, 3) := by decide +kernel
theorem dX0_workOut_62 : decode cX0_workOut 62 = .ok (.return_, 1) := by decide +kernel
set_option maxRecDepth 20000 in
theorem ggX0_layLeftmost_X3_dotsOfStem : GoodIn wsX0_layLeftmost wsX3_dotsOfStem := goodIn_r _ [13, 14, 15, 16, 17, 12, 18, 19, 20, 21, 22, 23, 24, 25, 26, 27, 28, 41, 42, 43, 44, 45, 46, 47, 48, 49, 50, 51] (by decide +kernel) (by decide +kernel)
set_option maxRecDepth 20000 in
theorem gX0_layLeftmost_X3_dotsOfStem : GoodIn wsX0_layLeftmost (wsV RX0 71 RX3 yX3_dotsOfStem wsX3_dotsOfStem) := goodIn_app (goodIn_of _ (by decide +kernel)) ggX0_layLeftmost_X3_dotsOfStem
theorem dX0_layLeftmost_0 : decode cX0_layLeftmost 0 = .ok (.iconst 0, 1) := by decide +kernel
theorem dX0_layLeftmost_1 : decode cX0_layLeftmost 1 = .ok (.istore_n 1, 1) := by decide +kernel
theorem dX0_layLeftmost_2 : decode cX0_layLeftmost 2 = .ok (.aload_n 0, 1) := by decide +kernel
theorem dX0_layLeftmost_3 : decode cX0_layLeftmost 3 = .ok (.iconst 0, 1) := by decide +kernel
theorem dX0_layLeftmost_4 : decode cX0_layLeftmost 4 = .ok (.putfield 92, 3) := by decide +kernel
theorem dX0_layLeftmost_7 : decode cX0_layLeftmost 7 = .ok (.iconst 0, 1) := by decide +kernel
theorem dX0_layLeftmost_8 : decode cX0_layLeftmost 8 = .ok (.istore_n 2, 1) := by decide +kernel
theorem dX0_layLeftmost_9 : decode cX0_layLeftmost 9 = .ok (.iload_n 2, 1) := by decide +kernel
theorem dX0_layLeftmost_10 : decode cX0_layLeftmost 10 = .ok (.aload_n 0, 1) := by decide +kernel
theorem dX0_layLeftmost_11 : decode cX0_layLeftmost 11 = .ok (.getfield 15, 3) := by decide +kernel
theorem dX0_layLeftmost_14 : decode cX0_layLeftmost 14 = .ok (.getfield 50, 3) := by decide +kernel
theorem dX0_layLeftmost_17 : decode cX0_layLeftmost 17 = .ok (.if_icmp .ge 80, 3) := by decide +kernel
theorem dX0_layLeftmost_20 : decode cX0_layLeftmost 20 = .ok (.aload_n 0, 1) := by decide +kernel
theorem dX0_layLeftmost_21 : decode cX0_layLeftmost 21 = .ok (.getfield 34, 3) := by decide +kernel
theorem dX0_layLeftmost_24 : decode cX0_layLeftmost 24 = .ok (.iload_n 2, 1) := by decide +kernel
theorem dX0_layLeftmost_25 : decode cX0_layLeftmost 25 = .ok (.aload_n 0, 1) := by decide +kernel
theorem dX0_layLeftmost_26 : decode cX0_layLeftmost 26 = .ok (.getfield 15, 3) := by decide +kernel
theorem dX0_layLeftmost_29 : decode cX0_layLeftmost 29 = .ok (.iload_n 2, 1) := by decide +kernel
theorem dX0_layLeftmost_30 : decode cX0_layLeftmost 30 = .ok (.aload_n 0, 1) := by decide +kernel
theorem dX0_layLeftmost_31 : decode cX0_layLeftmost 31 = .ok (.getfield 75, 3) := by decide +kernel
theorem dX0_layLeftmost_34 : decode cX0_layLeftmost 34 = .ok (.aload_n 0, 1) := by decide +kernel
theorem dX0_layLeftmost_35 : decode cX0_layLeftmost 35 = .ok (.getfield 9, 3) := by decide +kernel
theorem dX0_layLeftmost_38 : decode cX0_layLeftmost 38 = .ok (.getfield 66, 3) := by decide +kernel
theorem dX0_layLeftmost_41 : decode cX0_layLeftmost 41 = .ok (.iconst 4, 1) := by decide +kernel
theorem dX0_layLeftmost_42 : decode cX0_layLeftmost 42 = .ok (.iaload, 1) := by decide +kernel
theorem dX0_layLeftmost_43 : decode cX0_layLeftmost 43 = .ok (.invokevirtual 71, 3) := by decide +kernel
theorem dX0_layLeftmost_46 : decode cX0_layLeftmost 46 = .ok (.iastore, 1) := by decide +kernel
theorem dX0_layLeftmost_47 : decode cX0_layLeftmost 47 = .ok (.aload_n 0, 1) := by decide +kernel
theorem dX0_layLeftmost_48 : decode cX0_layLeftmost 48 = .ok (.getfield 37, 3) := by decide +kernel
theorem dX0_layLeftmost_51 : decode cX0_layLeftmost 51 = .ok (.iload_n 2, 1) := by decide +kernel
theorem dX0_layLeftmost_52 : decode cX0_layLeftmost 52 = .ok (.iload_n 1, 1) := by decide +kernel
theorem dX0_layLeftmost_53 : decode cX0_layLeftmost 53 = .ok (.iastore, 1) := by decide +kernel
theorem dX0_layLeftmost_54 : decode cX0_layLeftmost 54 = .ok (.aload_n 0, 1) := by decide +kernel
theorem dX0_layLeftmost_55 : decode cX0_layLeftmost 55 = .ok (.aload_n 0, 1) := by decide +kernel
theorem dX0_layLeftmost_56 : decode cX0_layLeftmost 56 = .ok (.getfield 75, 3) := by decide +kernel
theorem dX0_layLeftmost_59 : decode cX0_layLeftmost 59 = .ok (.iload_n 1, 1) := by decide +kernel
theorem dX0_layLeftmost_60 : decode cX0_layLeftmost 60 = .ok (.isub, 1) := by decide +kernel
theorem dX0_layLeftmost_61 : decode cX0_layLeftmost 61 = .ok (.aload_n 0, 1) := by decide +kernel
theorem dX0_layLeftmost_62 : decode cX0_layLeftmost 62 = .ok (.getfield 34, 3) := by decide +kernel
theorem dX0_layLeftmost_65 : decode cX0_layLeftmost 65 = .ok (.iload_n 2, 1) := by decide +kernel
theorem dX0_layLeftmost_66 : decode cX0_layLeftmost 66 = .ok (.iaload, 1) := by decide +kernel
theorem dX0_layLeftmost_67 : decode cX0_layLeftmost 67 = .ok (.isub, 1) := by decide +kernel
theorem dX0_layLeftmost_68 : decode cX0_layLeftmost 68 = .ok (.putfield 92, 3) := by decide +kernel
theorem dX0_layLeftmost_71 : decode cX0_layLeftmost 71 = .ok (.aload_n 0, 1) := by decide +kernel
theorem dX0_layLeftmost_72 : decode cX0_layLeftmost 72 = .ok (.getfield 92, 3) := by decide +kernel
theorem dX0_layLeftmost_75 : decode cX0_layLeftmost 75 = .ok (.ifCond .ge 5, 3) := by decide +kernel
theorem dX0_layLeftmost_78 : decode cX0_layLeftmost 78 = .ok (.iload_n 2, 1) := by decide +kernel
theorem dX0_layLeftmost_79 : decode cX0_layLeftmost 79 = .ok (.ireturn, 1) := by decide +kernel
theorem dX0_layLeftmost_80 : decode cX0_layLeftmost 80 = .ok (.iload_n 1, 1) := by decide +kernel
theorem dX0_layLeftmost_81 : decode cX0_layLeftmost 81 = .ok (.aload_n 0, 1) := by decide +kernel
theorem dX0_layLeftmost_82 : decode cX0_layLeftmost 82 = .ok (.getfield 34, 3) := by decide +kernel
theorem dX0_layLeftmost_85 : decode cX0_layLeftmost 85 = .ok (.iload_n 2, 1) := by decide +kernel
theorem dX0_layLeftmost_86 : decode cX0_layLeftmost 86 = .ok (.iaload, 1) := by decide +kernel
theorem dX0_layLeftmost_87 : decode cX0_layLeftmost 87 = .ok (.iconst 1, 1) := by decide +kernel
theorem dX0_layLeftmost_88 : decode cX0_layLeftmost 88 = .ok (.iadd, 1) := by decide +kernel
theorem dX0_layLeftmost_89 : decode cX0_layLeftmost 89 = .ok (.iadd, 1) := by decide +kernel
theorem dX0_layLeftmost_90 : decode cX0_layLeftmost 90 = .ok (.istore_n 1, 1) := by decide +kernel
theorem dX0_layLeftmost_91 : decode cX0_layLeftmost 91 = .ok (.iinc 2 1, 3) := by decide +kernel
theorem dX0_layLeftmost_94 : decode cX0_layLeftmost 94 = .ok (.goto (-85), 3) := by decide +kernel
theorem dX0_layLeftmost_97 : decode cX0_layLeftmost 97 = .ok (.bipush (-6), 2) := by decide +kernel
theorem dX0_layLeftmost_99 : decode cX0_layLeftmost 99 = .ok (.ireturn, 1) := by decide +kernel
set_option maxRecDepth 20000 in
theorem ggX0_weighRests_X0_weighGapsBehind : GoodIn wsX0_weighRests wsX0_weighGapsBehind := goodIn_r _ [9, 1, 2, 3, 10, 11, 12, 13, 8, 14, 15, 16, 17, 18, 19, 20, 21, 22, 23, 24, 25, 26, 27, 28, 53, 54, 55, 56, 57, 58, 59, 60, 61, 62, 63, 64, 65, 66, 67, 68, 69, 70, 71, 72, 73, 74, 75, 76, 77, 78, 79, 80, 81] (by decide +kernel) (by decide +kernel)
set_option maxRecDepth 20000 in
theorem gX0_weighRests_X0_weighGapsBehind : GoodIn wsX0_weighRests (wsV RX0 95 RX0 yX0_weighGapsBehind wsX0_weighGapsBehind) := goodIn_app (goodIn_of _ (by decide +kernel)) ggX0_weighRests_X0_weighGapsBehind
set_option maxRecDepth 20000 in
theorem ggX0_weighRests_X0_restAt : GoodIn wsX0_weighRests wsX0_restAt := goodIn_r _ [32, 1, 2, 10, 4, 3, 33, 34, 20, 35, 36, 37, 38, 8, 39, 40, 41, 15, 16, 17, 18, 19, 21, 22, 23, 24, 25, 26, 27, 28, 42, 43, 44, 45, 46, 47, 48, 49, 50, 51, 52, 53, 54, 55, 56, 57, 58, 59, 60, 61, 62, 63, 64, 65, 66, 67, 68, 69, 70, 71, 72, 73, 74, 75, 76, 77, 78, 79, 80, 81] (by decide +kernel) (by decide +kernel)
set_option maxRecDepth 20000 in
theorem gX0_weighRests_X0_restAt : GoodIn wsX0_weighRests (wsV RX0 98 RX0 yX0_restAt wsX0_restAt) := goodIn_app (goodIn_of _ (by decide +kernel)) ggX0_weighRests_X0_restAt
theorem dX0_weighRests_0 : decode cX0_weighRests 0 = .ok (.aload_n 0, 1) := by decide +kernel
theorem dX0_weighRests_1 : decode cX0_weighRests 1 = .ok (.getfield 15, 3) := by decide +kernel
theorem dX0_weighRests_4 : decode cX0_weighRests 4 = .ok (.getfield 50, 3) := by decide +kernel
theorem dX0_weighRests_7 : decode cX0_weighRests 7 = .ok (.iconst 1, 1) := by decide +kernel
theorem dX0_weighRests_8 : decode cX0_weighRests 8 = .ok (.isub, 1) := by decide +kernel
theorem dX0_weighRests_9 : decode cX0_weighRests 9 = .ok (.istore_n 1, 1) := by decide +kernel
theorem dX0_weighRests_10 : decode cX0_weighRests 10 = .ok (.iload_n 1, 1) := by decide +kernel
theorem dX0_weighRests_11 : decode cX0_weighRests 11 = .ok (.ifCond .lt 53, 3) := by decide +kernel
theorem dX0_weighRests_14 : decode cX0_weighRests 14 = .ok (.aload_n 0, 1) := by decide +kernel
theorem dX0_weighRests_15 : decode cX0_weighRests 15 = .ok (.iload_n 1, 1) := by decide +kernel
theorem dX0_weighRests_16 : decode cX0_weighRests 16 = .ok (.invokevirtual 95, 3) := by decide +kernel
theorem dX0_weighRests_19 : decode cX0_weighRests 19 = .ok (.iconst 0, 1) := by decide +kernel
theorem dX0_weighRests_20 : decode cX0_weighRests 20 = .ok (.istore_n 2, 1) := by decide +kernel
theorem dX0_weighRests_21 : decode cX0_weighRests 21 = .ok (.iload_n 2, 1) := by decide +kernel
theorem dX0_weighRests_22 : decode cX0_weighRests 22 = .ok (.aload_n 0, 1) := by decide +kernel
theorem dX0_weighRests_23 : decode cX0_weighRests 23 = .ok (.getfield 92, 3) := by decide +kernel
theorem dX0_weighRests_26 : decode cX0_weighRests 26 = .ok (.if_icmp .gt 32, 3) := by decide +kernel
theorem dX0_weighRests_29 : decode cX0_weighRests 29 = .ok (.iload_n 2, 1) := by decide +kernel
theorem dX0_weighRests_30 : decode cX0_weighRests 30 = .ok (.bipush 60, 2) := by decide +kernel
theorem dX0_weighRests_32 : decode cX0_weighRests 32 = .ok (.if_icmp .ge 26, 3) := by decide +kernel
theorem dX0_weighRests_35 : decode cX0_weighRests 35 = .ok (.aload_n 0, 1) := by decide +kernel
theorem dX0_weighRests_36 : decode cX0_weighRests 36 = .ok (.getfield 40, 3) := by decide +kernel
theorem dX0_weighRests_39 : decode cX0_weighRests 39 = .ok (.iload_n 1, 1) := by decide +kernel
theorem dX0_weighRests_40 : decode cX0_weighRests 40 = .ok (.bipush 60, 2) := by decide +kernel
theorem dX0_weighRests_42 : decode cX0_weighRests 42 = .ok (.imul, 1) := by decide +kernel
theorem dX0_weighRests_43 : decode cX0_weighRests 43 = .ok (.iload_n 2, 1) := by decide +kernel
theorem dX0_weighRests_44 : decode cX0_weighRests 44 = .ok (.iadd, 1) := by decide +kernel
theorem dX0_weighRests_45 : decode cX0_weighRests 45 = .ok (.aload_n 0, 1) := by decide +kernel
theorem dX0_weighRests_46 : decode cX0_weighRests 46 = .ok (.iload_n 1, 1) := by decide +kernel
theorem dX0_weighRests_47 : decode cX0_weighRests 47 = .ok (.iload_n 2, 1) := by decide +kernel
theorem dX0_weighRests_48 : decode cX0_weighRests 48 = .ok (.invokevirtual 98, 3) := by decide +kernel
theorem dX0_weighRests_51 : decode cX0_weighRests 51 = .ok (.lastore, 1) := by decide +kernel
theorem dX0_weighRests_52 : decode cX0_weighRests 52 = .ok (.iinc 2 1, 3) := by decide +kernel
theorem dX0_weighRests_55 : decode cX0_weighRests 55 = .ok (.goto (-34), 3) := by decide +kernel
theorem dX0_weighRests_58 : decode cX0_weighRests 58 = .ok (.iinc 1 (-1), 3) := by decide +kernel
theorem dX0_weighRests_61 : decode cX0_weighRests 61 = .ok (.goto (-51), 3) := by decide +kernel
theorem dX0_weighRests_64 : decode cX0_weighRests 64 = .ok (.return_, 1) := by decide +kernel
set_option maxRecDepth 20000 in
theorem ggX0_weighGapsBehind_X0_gapCost : GoodIn wsX0_weighGapsBehind wsX0_gapCost := goodIn_r _ [9, 1, 10, 11, 12, 13, 14, 15, 16, 17, 18, 19, 20, 21, 8, 22, 23, 24, 25, 26, 27, 28, 29, 30, 31, 32, 33, 34, 35, 36, 37, 38, 39, 40, 41, 42, 43, 44, 45, 46, 47, 48, 49, 50, 51, 52] (by decide +kernel) (by decide +kernel)
set_option maxRecDepth 20000 in
theorem gX0_weighGapsBehind_X0_gapCost : GoodIn wsX0_weighGapsBehind (wsV RX0 102 RX0 yX0_gapCost wsX0_gapCost) := goodIn_app (goodIn_of _ (by decide +kernel)) ggX0_weighGapsBehind_X0_gapCost
theorem dX0_weighGapsBehind_0 : decode cX0_weighGapsBehind 0 = .ok (.iconst 0, 1) := by decide +kernel
theorem dX0_weighGapsBehind_1 : decode cX0_weighGapsBehind 1 = .ok (.istore_n 2, 1) := by decide +kernel
theorem dX0_weighGapsBehind_2 : decode cX0_weighGapsBehind 2 = .ok (.iload_n 1, 1) := by decide +kernel
theorem dX0_weighGapsBehind_3 : decode cX0_weighGapsBehind 3 = .ok (.iconst 1, 1) := by decide +kernel
theorem dX0_weighGapsBehind_4 : decode cX0_weighGapsBehind 4 = .ok (.iadd, 1) := by decide +kernel
theorem dX0_weighGapsBehind_5 : decode cX0_weighGapsBehind 5 = .ok (.aload_n 0, 1) := by decide +kernel
theorem dX0_weighGapsBehind_6 : decode cX0_weighGapsBehind 6 = .ok (.getfield 15, 3) := by decide +kernel
theorem dX0_weighGapsBehind_9 : decode cX0_weighGapsBehind 9 = .ok (.getfield 50, 3) := by decide +kernel
theorem dX0_weighGapsBehind_12 : decode cX0_weighGapsBehind 12 = .ok (.if_icmp .ge 35, 3) := by decide +kernel
theorem dX0_weighGapsBehind_15 : decode cX0_weighGapsBehind 15 = .ok (.iload_n 2, 1) := by decide +kernel
theorem dX0_weighGapsBehind_16 : decode cX0_weighGapsBehind 16 = .ok (.aload_n 0, 1) := by decide +kernel
theorem dX0_weighGapsBehind_17 : decode cX0_weighGapsBehind 17 = .ok (.getfield 92, 3) := by decide +kernel
theorem dX0_weighGapsBehind_20 : decode cX0_weighGapsBehind 20 = .ok (.if_icmp .gt 27, 3) := by decide +kernel
theorem dX0_weighGapsBehind_23 : decode cX0_weighGapsBehind 23 = .ok (.iload_n 2, 1) := by decide +kernel
theorem dX0_weighGapsBehind_24 : decode cX0_weighGapsBehind 24 = .ok (.bipush 60, 2) := by decide +kernel
theorem dX0_weighGapsBehind_26 : decode cX0_weighGapsBehind 26 = .ok (.if_icmp .ge 21, 3) := by decide +kernel
theorem dX0_weighGapsBehind_29 : decode cX0_weighGapsBehind 29 = .ok (.aload_n 0, 1) := by decide +kernel
theorem dX0_weighGapsBehind_30 : decode cX0_weighGapsBehind 30 = .ok (.getfield 43, 3) := by decide +kernel
theorem dX0_weighGapsBehind_33 : decode cX0_weighGapsBehind 33 = .ok (.iload_n 2, 1) := by decide +kernel
theorem dX0_weighGapsBehind_34 : decode cX0_weighGapsBehind 34 = .ok (.aload_n 0, 1) := by decide +kernel
theorem dX0_weighGapsBehind_35 : decode cX0_weighGapsBehind 35 = .ok (.iload_n 1, 1) := by decide +kernel
theorem dX0_weighGapsBehind_36 : decode cX0_weighGapsBehind 36 = .ok (.iload_n 2, 1) := by decide +kernel
theorem dX0_weighGapsBehind_37 : decode cX0_weighGapsBehind 37 = .ok (.invokevirtual 102, 3) := by decide +kernel
theorem dX0_weighGapsBehind_40 : decode cX0_weighGapsBehind 40 = .ok (.lastore, 1) := by decide +kernel
theorem dX0_weighGapsBehind_41 : decode cX0_weighGapsBehind 41 = .ok (.iinc 2 1, 3) := by decide +kernel
theorem dX0_weighGapsBehind_44 : decode cX0_weighGapsBehind 44 = .ok (.goto (-42), 3) := by decide +kernel
theorem dX0_weighGapsBehind_47 : decode cX0_weighGapsBehind 47 = .ok (.return_, 1) := by decide +kernel
set_option maxRecDepth 20000 in
theorem ggX0_restAt_X0_stemCost : GoodIn wsX0_restAt wsX0_stemCost := goodIn_r _ [14, 15, 16, 1, 17, 18, 19, 20, 21, 8, 22, 23, 24, 25, 26, 27, 13, 28, 29, 41, 42, 43, 44, 45, 46, 47, 48, 49, 50, 51, 52, 53, 54, 55, 56, 57, 58, 59, 60, 61, 62, 63, 64, 65, 66, 67, 68, 69] (by decide +kernel) (by decide +kernel)
set_option maxRecDepth 20000 in
theorem gX0_restAt_X0_stemCost : GoodIn wsX0_restAt (wsV RX0 105 RX0 yX0_stemCost wsX0_stemCost) := goodIn_app (goodIn_of _ (by decide +kernel)) ggX0_restAt_X0_stemCost
set_option maxRecDepth 20000 in
theorem ggX0_restAt_X0_joined : GoodIn wsX0_restAt wsX0_joined := goodIn_r _ [33, 34, 35, 8, 36, 37, 38, 39, 13, 40, 23, 24, 41, 42, 43, 44, 45, 46, 47, 48, 49, 50, 51, 52, 64, 65, 66, 67, 68, 69] (by decide +kernel) (by decide +kernel)
set_option maxRecDepth 20000 in
theorem gX0_restAt_X0_joined : GoodIn wsX0_restAt (wsV RX0 108 RX0 yX0_joined wsX0_joined) := goodIn_app (goodIn_of _ (by decide +kernel)) ggX0_restAt_X0_joined
theorem dX0_restAt_0 : decode cX0_restAt 0 = .ok (.aload_n 0, 1) := by decide +kernel
theorem dX0_restAt_1 : decode cX0_restAt 1 = .ok (.iload_n 1, 1) := by decide +kernel
theorem dX0_restAt_2 : decode cX0_restAt 2 = .ok (.iload_n 2, 1) := by decide +kernel
theorem dX0_restAt_3 : decode cX0_restAt 3 = .ok (.invokevirtual 105, 3) := by decide +kernel
theorem dX0_restAt_6 : decode cX0_restAt 6 = .ok (.lstore_n 3, 1) := by decide +kernel
theorem dX0_restAt_7 : decode cX0_restAt 7 = .ok (.iload_n 1, 1) := by decide +kernel
theorem dX0_restAt_8 : decode cX0_restAt 8 = .ok (.iconst 1, 1) := by decide +kernel
theorem dX0_restAt_9 : decode cX0_restAt 9 = .ok (.iadd, 1) := by decide +kernel
theorem dX0_restAt_10 : decode cX0_restAt 10 = .ok (.aload_n 0, 1) := by decide +kernel
theorem dX0_restAt_11 : decode cX0_restAt 11 = .ok (.getfield 15, 3) := by decide +kernel
theorem dX0_restAt_14 : decode cX0_restAt 14 = .ok (.getfield 50, 3) := by decide +kernel
theorem dX0_restAt_17 : decode cX0_restAt 17 = .ok (.if_icmp .lt 5, 3) := by decide +kernel
theorem dX0_restAt_20 : decode cX0_restAt 20 = .ok (.lload_n 3, 1) := by decide +kernel
theorem dX0_restAt_21 : decode cX0_restAt 21 = .ok (.lreturn, 1) := by decide +kernel
theorem dX0_restAt_22 : decode cX0_restAt 22 = .ok (.aload_n 0, 1) := by decide +kernel
theorem dX0_restAt_23 : decode cX0_restAt 23 = .ok (.aload_n 0, 1) := by decide +kernel
theorem dX0_restAt_24 : decode cX0_restAt 24 = .ok (.getfield 43, 3) := by decide +kernel
theorem dX0_restAt_27 : decode cX0_restAt 27 = .ok (.iconst 0, 1) := by decide +kernel
theorem dX0_restAt_28 : decode cX0_restAt 28 = .ok (.laload, 1) := by decide +kernel
theorem dX0_restAt_29 : decode cX0_restAt 29 = .ok (.aload_n 0, 1) := by decide +kernel
theorem dX0_restAt_30 : decode cX0_restAt 30 = .ok (.getfield 40, 3) := by decide +kernel
theorem dX0_restAt_33 : decode cX0_restAt 33 = .ok (.iload_n 1, 1) := by decide +kernel
theorem dX0_restAt_34 : decode cX0_restAt 34 = .ok (.iconst 1, 1) := by decide +kernel
theorem dX0_restAt_35 : decode cX0_restAt 35 = .ok (.iadd, 1) := by decide +kernel
theorem dX0_restAt_36 : decode cX0_restAt 36 = .ok (.bipush 60, 2) := by decide +kernel
theorem dX0_restAt_38 : decode cX0_restAt 38 = .ok (.imul, 1) := by decide +kernel
theorem dX0_restAt_39 : decode cX0_restAt 39 = .ok (.iload_n 2, 1) := by decide +kernel
theorem dX0_restAt_40 : decode cX0_restAt 40 = .ok (.iadd, 1) := by decide +kernel
theorem dX0_restAt_41 : decode cX0_restAt 41 = .ok (.laload, 1) := by decide +kernel
theorem dX0_restAt_42 : decode cX0_restAt 42 = .ok (.invokevirtual 108, 3) := by decide +kernel
theorem dX0_restAt_45 : decode cX0_restAt 45 = .ok (.lstore 5, 2) := by decide +kernel
theorem dX0_restAt_47 : decode cX0_restAt 47 = .ok (.iload_n 2, 1) := by decide +kernel
theorem dX0_restAt_48 : decode cX0_restAt 48 = .ok (.iconst 1, 1) := by decide +kernel
theorem dX0_restAt_49 : decode cX0_restAt 49 = .ok (.iadd, 1) := by decide +kernel
theorem dX0_restAt_50 : decode cX0_restAt 50 = .ok (.istore 7, 2) := by decide +kernel
theorem dX0_restAt_52 : decode cX0_restAt 52 = .ok (.iload 7, 2) := by decide +kernel
theorem dX0_restAt_54 : decode cX0_restAt 54 = .ok (.aload_n 0, 1) := by decide +kernel
theorem dX0_restAt_55 : decode cX0_restAt 55 = .ok (.getfield 92, 3) := by decide +kernel
theorem dX0_restAt_58 : decode cX0_restAt 58 = .ok (.if_icmp .gt 50, 3) := by decide +kernel
theorem dX0_restAt_61 : decode cX0_restAt 61 = .ok (.iload 7, 2) := by decide +kernel
theorem dX0_restAt_63 : decode cX0_restAt 63 = .ok (.bipush 60, 2) := by decide +kernel
theorem dX0_restAt_65 : decode cX0_restAt 65 = .ok (.if_icmp .ge 43, 3) := by decide +kernel
theorem dX0_restAt_68 : decode cX0_restAt 68 = .ok (.lload 5, 2) := by decide +kernel
theorem dX0_restAt_70 : decode cX0_restAt 70 = .ok (.aload_n 0, 1) := by decide +kernel
theorem dX0_restAt_71 : decode cX0_restAt 71 = .ok (.aload_n 0, 1) := by decide +kernel
theorem dX0_restAt_72 : decode cX0_restAt 72 = .ok (.getfield 43, 3) := by decide +kernel
theorem dX0_restAt_75 : decode cX0_restAt 75 = .ok (.iload 7, 2) := by decide +kernel
theorem dX0_restAt_77 : decode cX0_restAt 77 = .ok (.iload_n 2, 1) := by decide +kernel
theorem dX0_restAt_78 : decode cX0_restAt 78 = .ok (.isub, 1) := by decide +kernel
theorem dX0_restAt_79 : decode cX0_restAt 79 = .ok (.laload, 1) := by decide +kernel
theorem dX0_restAt_80 : decode cX0_restAt 80 = .ok (.aload_n 0, 1) := by decide +kernel
theorem dX0_restAt_81 : decode cX0_restAt 81 = .ok (.getfield 40, 3) := by decide +kernel
theorem dX0_restAt_84 : decode cX0_restAt 84 = .ok (.iload_n 1, 1) := by decide +kernel
theorem dX0_restAt_85 : decode cX0_restAt 85 = .ok (.iconst 1, 1) := by decide +kernel
theorem dX0_restAt_86 : decode cX0_restAt 86 = .ok (.iadd, 1) := by decide +kernel
theorem dX0_restAt_87 : decode cX0_restAt 87 = .ok (.bipush 60, 2) := by decide +kernel
theorem dX0_restAt_89 : decode cX0_restAt 89 = .ok (.imul, 1) := by decide +kernel
theorem dX0_restAt_90 : decode cX0_restAt 90 = .ok (.iload 7, 2) := by decide +kernel
theorem dX0_restAt_92 : decode cX0_restAt 92 = .ok (.iadd, 1) := by decide +kernel
theorem dX0_restAt_93 : decode cX0_restAt 93 = .ok (.laload, 1) := by decide +kernel
theorem dX0_restAt_94 : decode cX0_restAt 94 = .ok (.invokevirtual 108, 3) := by decide +kernel
theorem dX0_restAt_97 : decode cX0_restAt 97 = .ok (.invokestatic 112, 3) := by decide +kernel
theorem dX0_restAt_100 : decode cX0_restAt 100 = .ok (.lstore 5, 2) := by decide +kernel
theorem dX0_restAt_102 : decode cX0_restAt 102 = .ok (.iinc 7 1, 3) := by decide +kernel
theorem dX0_restAt_105 : decode cX0_restAt 105 = .ok (.goto (-53), 3) := by decide +kernel
theorem dX0_restAt_108 : decode cX0_restAt 108 = .ok (.aload_n 0, 1) := by decide +kernel
theorem dX0_restAt_109 : decode cX0_restAt 109 = .ok (.lload_n 3, 1) := by decide +kernel
theorem dX0_restAt_110 : decode cX0_restAt 110 = .ok (.lload 5, 2) := by decide +kernel
theorem dX0_restAt_112 : decode cX0_restAt 112 = .ok (.invokevirtual 108, 3) := by decide +kernel
theorem dX0_restAt_115 : decode cX0_restAt 115 = .ok (.lreturn, 1) := by decide +kernel
theorem dX0_leastRest_0 : decode cX0_leastRest 0 = .ok (.aload_n 0, 1) := by decide +kernel
theorem dX0_leastRest_1 : decode cX0_leastRest 1 = .ok (.getfield 40, 3) := by decide +kernel
theorem dX0_leastRest_4 : decode cX0_leastRest 4 = .ok (.iconst 0, 1) := by decide +kernel
theorem dX0_leastRest_5 : decode cX0_leastRest 5 = .ok (.laload, 1) := by decide +kernel
theorem dX0_leastRest_6 : decode cX0_leastRest 6 = .ok (.lstore_n 1, 1) := by decide +kernel
theorem dX0_leastRest_7 : decode cX0_leastRest 7 = .ok (.iconst 1, 1) := by decide +kernel
theorem dX0_leastRest_8 : decode cX0_leastRest 8 = .ok (.istore_n 3, 1) := by decide +kernel
theorem dX0_leastRest_9 : decode cX0_leastRest 9 = .ok (.iload_n 3, 1) := by decide +kernel
theorem dX0_leastRest_10 : decode cX0_leastRest 10 = .ok (.aload_n 0, 1) := by decide +kernel
theorem dX0_leastRest_11 : decode cX0_leastRest 11 = .ok (.getfield 92, 3) := by decide +kernel
theorem dX0_leastRest_14 : decode cX0_leastRest 14 = .ok (.if_icmp .gt 26, 3) := by decide +kernel
theorem dX0_leastRest_17 : decode cX0_leastRest 17 = .ok (.iload_n 3, 1) := by decide +kernel
theorem dX0_leastRest_18 : decode cX0_leastRest 18 = .ok (.bipush 60, 2) := by decide +kernel
theorem dX0_leastRest_20 : decode cX0_leastRest 20 = .ok (.if_icmp .ge 20, 3) := by decide +kernel
theorem dX0_leastRest_23 : decode cX0_leastRest 23 = .ok (.lload_n 1, 1) := by decide +kernel
theorem dX0_leastRest_24 : decode cX0_leastRest 24 = .ok (.aload_n 0, 1) := by decide +kernel
theorem dX0_leastRest_25 : decode cX0_leastRest 25 = .ok (.getfield 40, 3) := by decide +kernel
theorem dX0_leastRest_28 : decode cX0_leastRest 28 = .ok (.iload_n 3, 1) := by decide +kernel
theorem dX0_leastRest_29 : decode cX0_leastRest 29 = .ok (.laload, 1) := by decide +kernel
theorem dX0_leastRest_30 : decode cX0_leastRest 30 = .ok (.invokestatic 112, 3) := by decide +kernel
theorem dX0_leastRest_33 : decode cX0_leastRest 33 = .ok (.lstore_n 1, 1) := by decide +kernel
theorem dX0_leastRest_34 : decode cX0_leastRest 34 = .ok (.iinc 3 1, 3) := by decide +kernel
theorem dX0_leastRest_37 : decode cX0_leastRest 37 = .ok (.goto (-28), 3) := by decide +kernel
theorem dX0_leastRest_40 : decode cX0_leastRest 40 = .ok (.lload_n 1, 1) := by decide +kernel
theorem dX0_leastRest_41 : decode cX0_leastRest 41 = .ok (.lreturn, 1) := by decide +kernel
set_option maxRecDepth 20000 in
theorem ggX0_layLeast_X0_comesTo : GoodIn wsX0_layLeast wsX0_comesTo := goodIn_r _ [12, 13, 14, 15, 16, 11, 17, 3, 18, 19, 2, 20, 21, 22, 23, 24, 25, 26, 27, 28, 29, 30, 31, 32, 33, 34, 35, 36, 37, 38, 39, 40, 41, 51, 52, 53, 54, 55, 56, 57, 58, 59, 60, 61, 62, 63, 64, 65, 66, 67, 68, 69, 70, 71, 72, 73, 74, 75, 76, 77, 78, 79] (by decide +kernel) (by decide +kernel)
set_option maxRecDepth 20000 in
theorem gX0_layLeast_X0_comesTo : GoodIn wsX0_layLeast (wsV RX0 117 RX0 yX0_comesTo wsX0_comesTo) := goodIn_app (goodIn_of _ (by decide +kernel)) ggX0_layLeast_X0_comesTo
set_option maxRecDepth 20000 in
theorem ggX0_layLeast_X0_stemCost : GoodIn wsX0_layLeast wsX0_stemCost := goodIn_r _ [45, 7, 46, 3, 18, 19, 2, 20, 21, 22, 23, 24, 25, 26, 27, 28, 11, 29, 30, 51, 52, 53, 54, 55, 56, 57, 58, 59, 60, 61, 62, 63, 64, 65, 66, 67, 68, 69, 70, 71, 72, 73, 74, 75, 76, 77, 78, 79] (by decide +kernel) (by decide +kernel)
set_option maxRecDepth 20000 in
theorem gX0_layLeast_X0_stemCost : GoodIn wsX0_layLeast (wsV RX0 105 RX0 yX0_stemCost wsX0_stemCost) := goodIn_app (goodIn_of _ (by decide +kernel)) ggX0_layLeast_X0_stemCost
set_option maxRecDepth 20000 in
theorem ggX0_layLeast_X0_without : GoodIn wsX0_layLeast wsX0_without := goodIn_r _ [50, 38, 39, 40, 11, 41, 24, 25, 51, 52, 53, 54, 55, 56, 57, 58, 59, 60, 61, 62, 74, 75, 76, 77, 78, 79] (by decide +kernel) (by decide +kernel)
set_option maxRecDepth 20000 in
theorem gX0_layLeast_X0_without : GoodIn wsX0_layLeast (wsV RX0 121 RX0 yX0_without wsX0_without) := goodIn_app (goodIn_of _ (by decide +kernel)) ggX0_layLeast_X0_without
set_option maxRecDepth 20000 in
theorem ggX0_layLeast_X0_gapCost : GoodIn wsX0_layLeast wsX0_gapCost := goodIn_r _ [17, 3, 18, 19, 2, 20, 21, 22, 23, 24, 25, 26, 27, 28, 11, 29, 30, 51, 52, 53, 54, 55, 56, 57, 58, 59, 60, 61, 62, 63, 64, 65, 66, 67, 68, 69, 70, 71, 72, 73, 74, 75, 76, 77, 78, 79] (by decide +kernel) (by decide +kernel)
set_option maxRecDepth 20000 in
theorem gX0_layLeast_X0_gapCost : GoodIn wsX0_layLeast (wsV RX0 102 RX0 yX0_gapCost wsX0_gapCost) := goodIn_app (goodIn_of _ (by decide +kernel)) ggX0_layLeast_X0_gapCost
theorem dX0_layLeast_0 : decode cX0_layLeast 0 = .ok (.aload_n 0, 1) := by decide +kernel
theorem dX0_layLeast_1 : decode cX0_layLeast 1 = .ok (.getfield 19, 3) := by decide +kernel
theorem dX0_layLeast_4 : decode cX0_layLeast 4 = .ok (.aload_n 0, 1) := by decide +kernel
theorem dX0_layLeast_5 : decode cX0_layLeast 5 = .ok (.getfield 75, 3) := by decide +kernel
theorem dX0_layLeast_8 : decode cX0_layLeast 8 = .ok (.laload, 1) := by decide +kernel
theorem dX0_layLeast_9 : decode cX0_layLeast 9 = .ok (.lstore_n 1, 1) := by decide +kernel
theorem dX0_layLeast_10 : decode cX0_layLeast 10 = .ok (.iconst 0, 1) := by decide +kernel
theorem dX0_layLeast_11 : decode cX0_layLeast 11 = .ok (.istore_n 3, 1) := by decide +kernel
theorem dX0_layLeast_12 : decode cX0_layLeast 12 = .ok (.iconst 0, 1) := by decide +kernel
theorem dX0_layLeast_13 : decode cX0_layLeast 13 = .ok (.istore 4, 2) := by decide +kernel
theorem dX0_layLeast_15 : decode cX0_layLeast 15 = .ok (.iload 4, 2) := by decide +kernel
theorem dX0_layLeast_17 : decode cX0_layLeast 17 = .ok (.aload_n 0, 1) := by decide +kernel
theorem dX0_layLeast_18 : decode cX0_layLeast 18 = .ok (.getfield 15, 3) := by decide +kernel
theorem dX0_layLeast_21 : decode cX0_layLeast 21 = .ok (.getfield 50, 3) := by decide +kernel
theorem dX0_layLeast_24 : decode cX0_layLeast 24 = .ok (.if_icmp .ge 108, 3) := by decide +kernel
theorem dX0_layLeast_27 : decode cX0_layLeast 27 = .ok (.iload_n 3, 1) := by decide +kernel
theorem dX0_layLeast_28 : decode cX0_layLeast 28 = .ok (.istore 5, 2) := by decide +kernel
theorem dX0_layLeast_30 : decode cX0_layLeast 30 = .ok (.iload_n 3, 1) := by decide +kernel
theorem dX0_layLeast_31 : decode cX0_layLeast 31 = .ok (.aload_n 0, 1) := by decide +kernel
theorem dX0_layLeast_32 : decode cX0_layLeast 32 = .ok (.getfield 92, 3) := by decide +kernel
theorem dX0_layLeast_35 : decode cX0_layLeast 35 = .ok (.if_icmp .ge 31, 3) := by decide +kernel
theorem dX0_layLeast_38 : decode cX0_layLeast 38 = .ok (.iload_n 3, 1) := by decide +kernel
theorem dX0_layLeast_39 : decode cX0_layLeast 39 = .ok (.iconst 1, 1) := by decide +kernel
theorem dX0_layLeast_40 : decode cX0_layLeast 40 = .ok (.iadd, 1) := by decide +kernel
theorem dX0_layLeast_41 : decode cX0_layLeast 41 = .ok (.bipush 60, 2) := by decide +kernel
theorem dX0_layLeast_43 : decode cX0_layLeast 43 = .ok (.if_icmp .ge 23, 3) := by decide +kernel
theorem dX0_layLeast_46 : decode cX0_layLeast 46 = .ok (.aload_n 0, 1) := by decide +kernel
theorem dX0_layLeast_47 : decode cX0_layLeast 47 = .ok (.iload 4, 2) := by decide +kernel
theorem dX0_layLeast_49 : decode cX0_layLeast 49 = .ok (.iload 5, 2) := by decide +kernel
theorem dX0_layLeast_51 : decode cX0_layLeast 51 = .ok (.iload_n 3, 1) := by decide +kernel
theorem dX0_layLeast_52 : decode cX0_layLeast 52 = .ok (.invokevirtual 117, 3) := by decide +kernel
theorem dX0_layLeast_55 : decode cX0_layLeast 55 = .ok (.lload_n 1, 1) := by decide +kernel
theorem dX0_layLeast_56 : decode cX0_layLeast 56 = .ok (.lcmp, 1) := by decide +kernel
theorem dX0_layLeast_57 : decode cX0_layLeast 57 = .ok (.ifCond .le 9, 3) := by decide +kernel
theorem dX0_layLeast_60 : decode cX0_layLeast 60 = .ok (.iinc 3 1, 3) := by decide +kernel
theorem dX0_layLeast_63 : decode cX0_layLeast 63 = .ok (.goto (-33), 3) := by decide +kernel
theorem dX0_layLeast_66 : decode cX0_layLeast 66 = .ok (.aload_n 0, 1) := by decide +kernel
theorem dX0_layLeast_67 : decode cX0_layLeast 67 = .ok (.getfield 31, 3) := by decide +kernel
theorem dX0_layLeast_70 : decode cX0_layLeast 70 = .ok (.aload_n 0, 1) := by decide +kernel
theorem dX0_layLeast_71 : decode cX0_layLeast 71 = .ok (.getfield 75, 3) := by decide +kernel
theorem dX0_layLeast_74 : decode cX0_layLeast 74 = .ok (.bipush 8, 2) := by decide +kernel
theorem dX0_layLeast_76 : decode cX0_layLeast 76 = .ok (.imul, 1) := by decide +kernel
theorem dX0_layLeast_77 : decode cX0_layLeast 77 = .ok (.iload 4, 2) := by decide +kernel
theorem dX0_layLeast_79 : decode cX0_layLeast 79 = .ok (.iadd, 1) := by decide +kernel
theorem dX0_layLeast_80 : decode cX0_layLeast 80 = .ok (.aload_n 0, 1) := by decide +kernel
theorem dX0_layLeast_81 : decode cX0_layLeast 81 = .ok (.getfield 37, 3) := by decide +kernel
theorem dX0_layLeast_84 : decode cX0_layLeast 84 = .ok (.iload 4, 2) := by decide +kernel
theorem dX0_layLeast_86 : decode cX0_layLeast 86 = .ok (.iaload, 1) := by decide +kernel
theorem dX0_layLeast_87 : decode cX0_layLeast 87 = .ok (.iload_n 3, 1) := by decide +kernel
theorem dX0_layLeast_88 : decode cX0_layLeast 88 = .ok (.iadd, 1) := by decide +kernel
theorem dX0_layLeast_89 : decode cX0_layLeast 89 = .ok (.iastore, 1) := by decide +kernel
theorem dX0_layLeast_90 : decode cX0_layLeast 90 = .ok (.aload_n 0, 1) := by decide +kernel
theorem dX0_layLeast_91 : decode cX0_layLeast 91 = .ok (.lload_n 1, 1) := by decide +kernel
theorem dX0_layLeast_92 : decode cX0_layLeast 92 = .ok (.aload_n 0, 1) := by decide +kernel
theorem dX0_layLeast_93 : decode cX0_layLeast 93 = .ok (.iload 4, 2) := by decide +kernel
theorem dX0_layLeast_95 : decode cX0_layLeast 95 = .ok (.iload_n 3, 1) := by decide +kernel
theorem dX0_layLeast_96 : decode cX0_layLeast 96 = .ok (.invokevirtual 105, 3) := by decide +kernel
theorem dX0_layLeast_99 : decode cX0_layLeast 99 = .ok (.invokevirtual 121, 3) := by decide +kernel
theorem dX0_layLeast_102 : decode cX0_layLeast 102 = .ok (.lstore_n 1, 1) := by decide +kernel
theorem dX0_layLeast_103 : decode cX0_layLeast 103 = .ok (.iload 4, 2) := by decide +kernel
theorem dX0_layLeast_105 : decode cX0_layLeast 105 = .ok (.ifCond .le 21, 3) := by decide +kernel
theorem dX0_layLeast_108 : decode cX0_layLeast 108 = .ok (.aload_n 0, 1) := by decide +kernel
theorem dX0_layLeast_109 : decode cX0_layLeast 109 = .ok (.lload_n 1, 1) := by decide +kernel
theorem dX0_layLeast_110 : decode cX0_layLeast 110 = .ok (.aload_n 0, 1) := by decide +kernel
theorem dX0_layLeast_111 : decode cX0_layLeast 111 = .ok (.iload 4, 2) := by decide +kernel
theorem dX0_layLeast_113 : decode cX0_layLeast 113 = .ok (.iconst 1, 1) := by decide +kernel
theorem dX0_layLeast_114 : decode cX0_layLeast 114 = .ok (.isub, 1) := by decide +kernel
theorem dX0_layLeast_115 : decode cX0_layLeast 115 = .ok (.iload_n 3, 1) := by decide +kernel
theorem dX0_layLeast_116 : decode cX0_layLeast 116 = .ok (.iload 5, 2) := by decide +kernel
theorem dX0_layLeast_118 : decode cX0_layLeast 118 = .ok (.isub, 1) := by decide +kernel
theorem dX0_layLeast_119 : decode cX0_layLeast 119 = .ok (.invokevirtual 102, 3) := by decide +kernel
theorem dX0_layLeast_122 : decode cX0_layLeast 122 = .ok (.invokevirtual 121, 3) := by decide +kernel
theorem dX0_layLeast_125 : decode cX0_layLeast 125 = .ok (.lstore_n 1, 1) := by decide +kernel
theorem dX0_layLeast_126 : decode cX0_layLeast 126 = .ok (.iinc 4 1, 3) := by decide +kernel
theorem dX0_layLeast_129 : decode cX0_layLeast 129 = .ok (.goto (-114), 3) := by decide +kernel
theorem dX0_layLeast_132 : decode cX0_layLeast 132 = .ok (.return_, 1) := by decide +kernel
set_option maxRecDepth 20000 in
theorem ggX0_comesTo_X0_gapCost : GoodIn wsX0_comesTo wsX0_gapCost := goodIn_r _ [6, 7, 8, 9, 10, 11, 12, 13, 14, 15, 16, 17, 18, 19, 5, 20, 21, 33, 34, 35, 36, 37, 38, 39, 40, 41, 42, 43, 44, 45, 46, 47, 48, 49, 50, 51, 52, 53, 54, 55, 56, 57, 58, 59, 60, 61] (by decide +kernel) (by decide +kernel)
set_option maxRecDepth 20000 in
theorem gX0_comesTo_X0_gapCost : GoodIn wsX0_comesTo (wsV RX0 102 RX0 yX0_gapCost wsX0_gapCost) := goodIn_app (goodIn_of _ (by decide +kernel)) ggX0_comesTo_X0_gapCost
set_option maxRecDepth 20000 in
theorem ggX0_comesTo_X0_joined : GoodIn wsX0_comesTo wsX0_joined := goodIn_r _ [25, 26, 27, 13, 28, 29, 30, 31, 5, 32, 15, 16, 33, 34, 35, 36, 37, 38, 39, 40, 41, 42, 43, 44, 56, 57, 58, 59, 60, 61] (by decide +kernel) (by decide +kernel)
set_option maxRecDepth 20000 in
theorem gX0_comesTo_X0_joined : GoodIn wsX0_comesTo (wsV RX0 108 RX0 yX0_joined wsX0_joined) := goodIn_app (goodIn_of _ (by decide +kernel)) ggX0_comesTo_X0_joined
theorem dX0_comesTo_0 : decode cX0_comesTo 0 = .ok (.aload_n 0, 1) := by decide +kernel
theorem dX0_comesTo_1 : decode cX0_comesTo 1 = .ok (.getfield 40, 3) := by decide +kernel
theorem dX0_comesTo_4 : decode cX0_comesTo 4 = .ok (.iload_n 1, 1) := by decide +kernel
theorem dX0_comesTo_5 : decode cX0_comesTo 5 = .ok (.bipush 60, 2) := by decide +kernel
theorem dX0_comesTo_7 : decode cX0_comesTo 7 = .ok (.imul, 1) := by decide +kernel
theorem dX0_comesTo_8 : decode cX0_comesTo 8 = .ok (.iload_n 3, 1) := by decide +kernel
theorem dX0_comesTo_9 : decode cX0_comesTo 9 = .ok (.iadd, 1) := by decide +kernel
theorem dX0_comesTo_10 : decode cX0_comesTo 10 = .ok (.laload, 1) := by decide +kernel
theorem dX0_comesTo_11 : decode cX0_comesTo 11 = .ok (.lstore 4, 2) := by decide +kernel
theorem dX0_comesTo_13 : decode cX0_comesTo 13 = .ok (.iload_n 1, 1) := by decide +kernel
theorem dX0_comesTo_14 : decode cX0_comesTo 14 = .ok (.ifCond .ne 8, 3) := by decide +kernel
theorem dX0_comesTo_17 : decode cX0_comesTo 17 = .ok (.lload 4, 2) := by decide +kernel
theorem dX0_comesTo_19 : decode cX0_comesTo 19 = .ok (.goto 19, 3) := by decide +kernel
theorem dX0_comesTo_22 : decode cX0_comesTo 22 = .ok (.aload_n 0, 1) := by decide +kernel
theorem dX0_comesTo_23 : decode cX0_comesTo 23 = .ok (.aload_n 0, 1) := by decide +kernel
theorem dX0_comesTo_24 : decode cX0_comesTo 24 = .ok (.iload_n 1, 1) := by decide +kernel
theorem dX0_comesTo_25 : decode cX0_comesTo 25 = .ok (.iconst 1, 1) := by decide +kernel
theorem dX0_comesTo_26 : decode cX0_comesTo 26 = .ok (.isub, 1) := by decide +kernel
theorem dX0_comesTo_27 : decode cX0_comesTo 27 = .ok (.iload_n 3, 1) := by decide +kernel
theorem dX0_comesTo_28 : decode cX0_comesTo 28 = .ok (.iload_n 2, 1) := by decide +kernel
theorem dX0_comesTo_29 : decode cX0_comesTo 29 = .ok (.isub, 1) := by decide +kernel
theorem dX0_comesTo_30 : decode cX0_comesTo 30 = .ok (.invokevirtual 102, 3) := by decide +kernel
theorem dX0_comesTo_33 : decode cX0_comesTo 33 = .ok (.lload 4, 2) := by decide +kernel
theorem dX0_comesTo_35 : decode cX0_comesTo 35 = .ok (.invokevirtual 108, 3) := by decide +kernel
theorem dX0_comesTo_38 : decode cX0_comesTo 38 = .ok (.lreturn, 1) := by decide +kernel
theorem dX0_worstCounts_0 : decode cX0_worstCounts 0 = .ok (.aload_n 0, 1) := by decide +kernel
theorem dX0_worstCounts_1 : decode cX0_worstCounts 1 = .ok (.getfield 9, 3) := by decide +kernel
theorem dX0_worstCounts_4 : decode cX0_worstCounts 4 = .ok (.getfield 66, 3) := by decide +kernel
theorem dX0_worstCounts_7 : decode cX0_worstCounts 7 = .ok (.iconst 3, 1) := by decide +kernel
theorem dX0_worstCounts_8 : decode cX0_worstCounts 8 = .ok (.iaload, 1) := by decide +kernel
theorem dX0_worstCounts_9 : decode cX0_worstCounts 9 = .ok (.iconst 2, 1) := by decide +kernel
theorem dX0_worstCounts_10 : decode cX0_worstCounts 10 = .ok (.if_icmp .lt 7, 3) := by decide +kernel
theorem dX0_worstCounts_13 : decode cX0_worstCounts 13 = .ok (.iconst 1, 1) := by decide +kernel
theorem dX0_worstCounts_14 : decode cX0_worstCounts 14 = .ok (.goto 4, 3) := by decide +kernel
theorem dX0_worstCounts_17 : decode cX0_worstCounts 17 = .ok (.iconst 0, 1) := by decide +kernel
theorem dX0_worstCounts_18 : decode cX0_worstCounts 18 = .ok (.ireturn, 1) := by decide +kernel
set_option maxRecDepth 20000 in
theorem ggX0_joined_X0_worstCounts : GoodIn wsX0_joined wsX0_worstCounts := goodIn_r _ [9, 10, 11, 12, 13, 14, 15, 16, 17, 18, 19, 20, 21, 22, 23, 24, 25, 26, 27, 28, 29] (by decide +kernel) (by decide +kernel)
set_option maxRecDepth 20000 in
theorem gX0_joined_X0_worstCounts : GoodIn wsX0_joined (wsV RX0 124 RX0 yX0_worstCounts wsX0_worstCounts) := goodIn_app (goodIn_of _ (by decide +kernel)) ggX0_joined_X0_worstCounts
theorem dX0_joined_0 : decode cX0_joined 0 = .ok (.aload_n 0, 1) := by decide +kernel
theorem dX0_joined_1 : decode cX0_joined 1 = .ok (.invokevirtual 124, 3) := by decide +kernel
theorem dX0_joined_4 : decode cX0_joined 4 = .ok (.ifCond .eq 11, 3) := by decide +kernel
theorem dX0_joined_7 : decode cX0_joined 7 = .ok (.lload_n 1, 1) := by decide +kernel
theorem dX0_joined_8 : decode cX0_joined 8 = .ok (.lload_n 3, 1) := by decide +kernel
theorem dX0_joined_9 : decode cX0_joined 9 = .ok (.invokestatic 128, 3) := by decide +kernel
theorem dX0_joined_12 : decode cX0_joined 12 = .ok (.goto 6, 3) := by decide +kernel
theorem dX0_joined_15 : decode cX0_joined 15 = .ok (.lload_n 1, 1) := by decide +kernel
theorem dX0_joined_16 : decode cX0_joined 16 = .ok (.lload_n 3, 1) := by decide +kernel
theorem dX0_joined_17 : decode cX0_joined 17 = .ok (.ladd, 1) := by decide +kernel
theorem dX0_joined_18 : decode cX0_joined 18 = .ok (.lreturn, 1) := by decide +kernel
set_option maxRecDepth 20000 in
theorem ggX0_without_X0_worstCounts : GoodIn wsX0_without wsX0_worstCounts := goodIn_r _ [5, 6, 7, 8, 9, 10, 11, 12, 13, 14, 15, 16, 17, 18, 19, 20, 21, 22, 23, 24, 25] (by decide +kernel) (by decide +kernel)
set_option maxRecDepth 20000 in
theorem gX0_without_X0_worstCounts : GoodIn wsX0_without (wsV RX0 124 RX0 yX0_worstCounts wsX0_worstCounts) := goodIn_app (goodIn_of _ (by decide +kernel)) ggX0_without_X0_worstCounts
theorem dX0_without_0 : decode cX0_without 0 = .ok (.aload_n 0, 1) := by decide +kernel
theorem dX0_without_1 : decode cX0_without 1 = .ok (.invokevirtual 124, 3) := by decide +kernel
theorem dX0_without_4 : decode cX0_without 4 = .ok (.ifCond .eq 7, 3) := by decide +kernel
theorem dX0_without_7 : decode cX0_without 7 = .ok (.lload_n 1, 1) := by decide +kernel
theorem dX0_without_8 : decode cX0_without 8 = .ok (.goto 6, 3) := by decide +kernel
theorem dX0_without_11 : decode cX0_without 11 = .ok (.lload_n 1, 1) := by decide +kernel
theorem dX0_without_12 : decode cX0_without 12 = .ok (.lload_n 3, 1) := by decide +kernel
theorem dX0_without_13 : decode cX0_without 13 = .ok (.lsub, 1) := by decide +kernel
theorem dX0_without_14 : decode cX0_without 14 = .ok (.lreturn, 1) := by decide +kernel
set_option maxRecDepth 20000 in
theorem ggX0_stemCost_X0_weighed : GoodIn wsX0_stemCost wsX0_weighed := goodIn_r _ [17, 11, 12, 18, 19, 20, 21, 22, 23, 24, 25, 26, 27, 28, 29, 30, 42, 43, 44, 45, 46, 47] (by decide +kernel) (by decide +kernel)
set_option maxRecDepth 20000 in
theorem gX0_stemCost_X0_weighed : GoodIn wsX0_stemCost (wsV RX0 135 RX0 yX0_weighed wsX0_weighed) := goodIn_app (goodIn_of _ (by decide +kernel)) ggX0_stemCost_X0_weighed
theorem dX0_stemCost_0 : decode cX0_stemCost 0 = .ok (.iconst 2, 1) := by decide +kernel
theorem dX0_stemCost_1 : decode cX0_stemCost 1 = .ok (.aload_n 0, 1) := by decide +kernel
theorem dX0_stemCost_2 : decode cX0_stemCost 2 = .ok (.getfield 37, 3) := by decide +kernel
theorem dX0_stemCost_5 : decode cX0_stemCost 5 = .ok (.iload_n 1, 1) := by decide +kernel
theorem dX0_stemCost_6 : decode cX0_stemCost 6 = .ok (.iaload, 1) := by decide +kernel
theorem dX0_stemCost_7 : decode cX0_stemCost 7 = .ok (.iload_n 2, 1) := by decide +kernel
theorem dX0_stemCost_8 : decode cX0_stemCost 8 = .ok (.iadd, 1) := by decide +kernel
theorem dX0_stemCost_9 : decode cX0_stemCost 9 = .ok (.imul, 1) := by decide +kernel
theorem dX0_stemCost_10 : decode cX0_stemCost 10 = .ok (.aload_n 0, 1) := by decide +kernel
theorem dX0_stemCost_11 : decode cX0_stemCost 11 = .ok (.getfield 34, 3) := by decide +kernel
theorem dX0_stemCost_14 : decode cX0_stemCost 14 = .ok (.iload_n 1, 1) := by decide +kernel
theorem dX0_stemCost_15 : decode cX0_stemCost 15 = .ok (.iaload, 1) := by decide +kernel
theorem dX0_stemCost_16 : decode cX0_stemCost 16 = .ok (.iadd, 1) := by decide +kernel
theorem dX0_stemCost_17 : decode cX0_stemCost 17 = .ok (.istore_n 3, 1) := by decide +kernel
theorem dX0_stemCost_18 : decode cX0_stemCost 18 = .ok (.iload_n 3, 1) := by decide +kernel
theorem dX0_stemCost_19 : decode cX0_stemCost 19 = .ok (.sipush 1000, 3) := by decide +kernel
theorem dX0_stemCost_22 : decode cX0_stemCost 22 = .ok (.imul, 1) := by decide +kernel
theorem dX0_stemCost_23 : decode cX0_stemCost 23 = .ok (.aload_n 0, 1) := by decide +kernel
theorem dX0_stemCost_24 : decode cX0_stemCost 24 = .ok (.getfield 15, 3) := by decide +kernel
theorem dX0_stemCost_27 : decode cX0_stemCost 27 = .ok (.getfield 56, 3) := by decide +kernel
theorem dX0_stemCost_30 : decode cX0_stemCost 30 = .ok (.iload_n 1, 1) := by decide +kernel
theorem dX0_stemCost_31 : decode cX0_stemCost 31 = .ok (.iaload, 1) := by decide +kernel
theorem dX0_stemCost_32 : decode cX0_stemCost 32 = .ok (.aload_n 0, 1) := by decide +kernel
theorem dX0_stemCost_33 : decode cX0_stemCost 33 = .ok (.getfield 15, 3) := by decide +kernel
theorem dX0_stemCost_36 : decode cX0_stemCost 36 = .ok (.getfield 63, 3) := by decide +kernel
theorem dX0_stemCost_39 : decode cX0_stemCost 39 = .ok (.iload_n 1, 1) := by decide +kernel
theorem dX0_stemCost_40 : decode cX0_stemCost 40 = .ok (.iaload, 1) := by decide +kernel
theorem dX0_stemCost_41 : decode cX0_stemCost 41 = .ok (.iadd, 1) := by decide +kernel
theorem dX0_stemCost_42 : decode cX0_stemCost 42 = .ok (.aload_n 0, 1) := by decide +kernel
theorem dX0_stemCost_43 : decode cX0_stemCost 43 = .ok (.getfield 75, 3) := by decide +kernel
theorem dX0_stemCost_46 : decode cX0_stemCost 46 = .ok (.imul, 1) := by decide +kernel
theorem dX0_stemCost_47 : decode cX0_stemCost 47 = .ok (.isub, 1) := by decide +kernel
theorem dX0_stemCost_48 : decode cX0_stemCost 48 = .ok (.invokestatic 131, 3) := by decide +kernel
theorem dX0_stemCost_51 : decode cX0_stemCost 51 = .ok (.istore 4, 2) := by decide +kernel
theorem dX0_stemCost_53 : decode cX0_stemCost 53 = .ok (.aload_n 0, 1) := by decide +kernel
theorem dX0_stemCost_54 : decode cX0_stemCost 54 = .ok (.iload 4, 2) := by decide +kernel
theorem dX0_stemCost_56 : decode cX0_stemCost 56 = .ok (.i2l, 1) := by decide +kernel
theorem dX0_stemCost_57 : decode cX0_stemCost 57 = .ok (.aload_n 0, 1) := by decide +kernel
theorem dX0_stemCost_58 : decode cX0_stemCost 58 = .ok (.getfield 9, 3) := by decide +kernel
theorem dX0_stemCost_61 : decode cX0_stemCost 61 = .ok (.getfield 66, 3) := by decide +kernel
theorem dX0_stemCost_64 : decode cX0_stemCost 64 = .ok (.iconst 1, 1) := by decide +kernel
theorem dX0_stemCost_65 : decode cX0_stemCost 65 = .ok (.iaload, 1) := by decide +kernel
theorem dX0_stemCost_66 : decode cX0_stemCost 66 = .ok (.invokevirtual 135, 3) := by decide +kernel
theorem dX0_stemCost_69 : decode cX0_stemCost 69 = .ok (.lreturn, 1) := by decide +kernel
set_option maxRecDepth 20000 in
theorem ggX0_gapCost_X0_weighed : GoodIn wsX0_gapCost wsX0_weighed := goodIn_r _ [15, 9, 10, 16, 17, 18, 19, 20, 21, 22, 23, 24, 25, 26, 27, 28, 40, 41, 42, 43, 44, 45] (by decide +kernel) (by decide +kernel)
set_option maxRecDepth 20000 in
theorem gX0_gapCost_X0_weighed : GoodIn wsX0_gapCost (wsV RX0 135 RX0 yX0_weighed wsX0_weighed) := goodIn_app (goodIn_of _ (by decide +kernel)) ggX0_gapCost_X0_weighed
theorem dX0_gapCost_0 : decode cX0_gapCost 0 = .ok (.aload_n 0, 1) := by decide +kernel
theorem dX0_gapCost_1 : decode cX0_gapCost 1 = .ok (.getfield 15, 3) := by decide +kernel
theorem dX0_gapCost_4 : decode cX0_gapCost 4 = .ok (.getfield 56, 3) := by decide +kernel
theorem dX0_gapCost_7 : decode cX0_gapCost 7 = .ok (.iload_n 1, 1) := by decide +kernel
theorem dX0_gapCost_8 : decode cX0_gapCost 8 = .ok (.iconst 1, 1) := by decide +kernel
theorem dX0_gapCost_9 : decode cX0_gapCost 9 = .ok (.iadd, 1) := by decide +kernel
theorem dX0_gapCost_10 : decode cX0_gapCost 10 = .ok (.iaload, 1) := by decide +kernel
theorem dX0_gapCost_11 : decode cX0_gapCost 11 = .ok (.aload_n 0, 1) := by decide +kernel
theorem dX0_gapCost_12 : decode cX0_gapCost 12 = .ok (.getfield 15, 3) := by decide +kernel
theorem dX0_gapCost_15 : decode cX0_gapCost 15 = .ok (.getfield 63, 3) := by decide +kernel
theorem dX0_gapCost_18 : decode cX0_gapCost 18 = .ok (.iload_n 1, 1) := by decide +kernel
theorem dX0_gapCost_19 : decode cX0_gapCost 19 = .ok (.iaload, 1) := by decide +kernel
theorem dX0_gapCost_20 : decode cX0_gapCost 20 = .ok (.isub, 1) := by decide +kernel
theorem dX0_gapCost_21 : decode cX0_gapCost 21 = .ok (.istore_n 3, 1) := by decide +kernel
theorem dX0_gapCost_22 : decode cX0_gapCost 22 = .ok (.iconst 2, 1) := by decide +kernel
theorem dX0_gapCost_23 : decode cX0_gapCost 23 = .ok (.iconst 1, 1) := by decide +kernel
theorem dX0_gapCost_24 : decode cX0_gapCost 24 = .ok (.iload_n 2, 1) := by decide +kernel
theorem dX0_gapCost_25 : decode cX0_gapCost 25 = .ok (.iadd, 1) := by decide +kernel
theorem dX0_gapCost_26 : decode cX0_gapCost 26 = .ok (.sipush 1000, 3) := by decide +kernel
theorem dX0_gapCost_29 : decode cX0_gapCost 29 = .ok (.imul, 1) := by decide +kernel
theorem dX0_gapCost_30 : decode cX0_gapCost 30 = .ok (.iload_n 3, 1) := by decide +kernel
theorem dX0_gapCost_31 : decode cX0_gapCost 31 = .ok (.aload_n 0, 1) := by decide +kernel
theorem dX0_gapCost_32 : decode cX0_gapCost 32 = .ok (.getfield 75, 3) := by decide +kernel
theorem dX0_gapCost_35 : decode cX0_gapCost 35 = .ok (.imul, 1) := by decide +kernel
theorem dX0_gapCost_36 : decode cX0_gapCost 36 = .ok (.isub, 1) := by decide +kernel
theorem dX0_gapCost_37 : decode cX0_gapCost 37 = .ok (.invokestatic 131, 3) := by decide +kernel
theorem dX0_gapCost_40 : decode cX0_gapCost 40 = .ok (.imul, 1) := by decide +kernel
theorem dX0_gapCost_41 : decode cX0_gapCost 41 = .ok (.istore 4, 2) := by decide +kernel
theorem dX0_gapCost_43 : decode cX0_gapCost 43 = .ok (.aload_n 0, 1) := by decide +kernel
theorem dX0_gapCost_44 : decode cX0_gapCost 44 = .ok (.iload 4, 2) := by decide +kernel
theorem dX0_gapCost_46 : decode cX0_gapCost 46 = .ok (.i2l, 1) := by decide +kernel
theorem dX0_gapCost_47 : decode cX0_gapCost 47 = .ok (.aload_n 0, 1) := by decide +kernel
theorem dX0_gapCost_48 : decode cX0_gapCost 48 = .ok (.getfield 9, 3) := by decide +kernel
theorem dX0_gapCost_51 : decode cX0_gapCost 51 = .ok (.getfield 66, 3) := by decide +kernel
theorem dX0_gapCost_54 : decode cX0_gapCost 54 = .ok (.iconst 2, 1) := by decide +kernel
theorem dX0_gapCost_55 : decode cX0_gapCost 55 = .ok (.iaload, 1) := by decide +kernel
theorem dX0_gapCost_56 : decode cX0_gapCost 56 = .ok (.invokevirtual 135, 3) := by decide +kernel
theorem dX0_gapCost_59 : decode cX0_gapCost 59 = .ok (.lreturn, 1) := by decide +kernel
theorem dX0_weighed_0 : decode cX0_weighed 0 = .ok (.aload_n 0, 1) := by decide +kernel
theorem dX0_weighed_1 : decode cX0_weighed 1 = .ok (.getfield 9, 3) := by decide +kernel
theorem dX0_weighed_4 : decode cX0_weighed 4 = .ok (.getfield 66, 3) := by decide +kernel
theorem dX0_weighed_7 : decode cX0_weighed 7 = .ok (.iconst 3, 1) := by decide +kernel
theorem dX0_weighed_8 : decode cX0_weighed 8 = .ok (.iaload, 1) := by decide +kernel
theorem dX0_weighed_9 : decode cX0_weighed 9 = .ok (.iconst 2, 1) := by decide +kernel
theorem dX0_weighed_10 : decode cX0_weighed 10 = .ok (.irem, 1) := by decide +kernel
theorem dX0_weighed_11 : decode cX0_weighed 11 = .ok (.iconst 1, 1) := by decide +kernel
theorem dX0_weighed_12 : decode cX0_weighed 12 = .ok (.if_icmp .ne 7, 3) := by decide +kernel
theorem dX0_weighed_15 : decode cX0_weighed 15 = .ok (.iconst 1, 1) := by decide +kernel
theorem dX0_weighed_16 : decode cX0_weighed 16 = .ok (.goto 4, 3) := by decide +kernel
theorem dX0_weighed_19 : decode cX0_weighed 19 = .ok (.iconst 0, 1) := by decide +kernel
theorem dX0_weighed_20 : decode cX0_weighed 20 = .ok (.istore 4, 2) := by decide +kernel
theorem dX0_weighed_22 : decode cX0_weighed 22 = .ok (.iload 4, 2) := by decide +kernel
theorem dX0_weighed_24 : decode cX0_weighed 24 = .ok (.ifCond .eq 13, 3) := by decide +kernel
theorem dX0_weighed_27 : decode cX0_weighed 27 = .ok (.lload_n 1, 1) := by decide +kernel
theorem dX0_weighed_28 : decode cX0_weighed 28 = .ok (.lload_n 1, 1) := by decide +kernel
theorem dX0_weighed_29 : decode cX0_weighed 29 = .ok (.lmul, 1) := by decide +kernel
theorem dX0_weighed_30 : decode cX0_weighed 30 = .ok (.ldc2_w 139, 3) := by decide +kernel
theorem dX0_weighed_33 : decode cX0_weighed 33 = .ok (.ldiv, 1) := by decide +kernel
theorem dX0_weighed_34 : decode cX0_weighed 34 = .ok (.goto 4, 3) := by decide +kernel
theorem dX0_weighed_37 : decode cX0_weighed 37 = .ok (.lload_n 1, 1) := by decide +kernel
theorem dX0_weighed_38 : decode cX0_weighed 38 = .ok (.iload_n 3, 1) := by decide +kernel
theorem dX0_weighed_39 : decode cX0_weighed 39 = .ok (.i2l, 1) := by decide +kernel
theorem dX0_weighed_40 : decode cX0_weighed 40 = .ok (.lmul, 1) := by decide +kernel
theorem dX0_weighed_41 : decode cX0_weighed 41 = .ok (.lreturn, 1) := by decide +kernel
theorem dX1_init_0 : decode cX1_init 0 = .ok (.aload_n 0, 1) := by decide +kernel
theorem dX1_init_1 : decode cX1_init 1 = .ok (.invokespecial 3, 3) := by decide +kernel
theorem dX1_init_4 : decode cX1_init 4 = .ok (.aload_n 0, 1) := by decide +kernel
theorem dX1_init_5 : decode cX1_init 5 = .ok (.bipush 16, 2) := by decide +kernel
theorem dX1_init_7 : decode cX1_init 7 = .ok (.newarray .int, 2) := by decide +kernel
theorem dX1_init_9 : decode cX1_init 9 = .ok (.putfield 9, 3) := by decide +kernel
theorem dX1_init_12 : decode cX1_init 12 = .ok (.aload_n 0, 1) := by decide +kernel
theorem dX1_init_13 : decode cX1_init 13 = .ok (.bipush 16, 2) := by decide +kernel
theorem dX1_init_15 : decode cX1_init 15 = .ok (.newarray .int, 2) := by decide +kernel
theorem dX1_init_17 : decode cX1_init 17 = .ok (.putfield 15, 3) := by decide +kernel
theorem dX1_init_20 : decode cX1_init 20 = .ok (.aload_n 0, 1) := by decide +kernel
theorem dX1_init_21 : decode cX1_init 21 = .ok (.bipush 16, 2) := by decide +kernel
theorem dX1_init_23 : decode cX1_init 23 = .ok (.newarray .int, 2) := by decide +kernel
theorem dX1_init_25 : decode cX1_init 25 = .ok (.putfield 18, 3) := by decide +kernel
theorem dX1_init_28 : decode cX1_init 28 = .ok (.aload_n 0, 1) := by decide +kernel
theorem dX1_init_29 : decode cX1_init 29 = .ok (.bipush 16, 2) := by decide +kernel
theorem dX1_init_31 : decode cX1_init 31 = .ok (.newarray .int, 2) := by decide +kernel
theorem dX1_init_33 : decode cX1_init 33 = .ok (.putfield 21, 3) := by decide +kernel
theorem dX1_init_36 : decode cX1_init 36 = .ok (.aload_n 0, 1) := by decide +kernel
theorem dX1_init_37 : decode cX1_init 37 = .ok (.iconst 5, 1) := by decide +kernel
theorem dX1_init_38 : decode cX1_init 38 = .ok (.newarray .int, 2) := by decide +kernel
theorem dX1_init_40 : decode cX1_init 40 = .ok (.putfield 24, 3) := by decide +kernel
theorem dX1_init_43 : decode cX1_init 43 = .ok (.getstatic 27, 3) := by decide +kernel
theorem dX1_init_46 : decode cX1_init 46 = .ok (.iconst 0, 1) := by decide +kernel
theorem dX1_init_47 : decode cX1_init 47 = .ok (.aload_n 0, 1) := by decide +kernel
theorem dX1_init_48 : decode cX1_init 48 = .ok (.getfield 24, 3) := by decide +kernel
theorem dX1_init_51 : decode cX1_init 51 = .ok (.iconst 0, 1) := by decide +kernel
theorem dX1_init_52 : decode cX1_init 52 = .ok (.iconst 5, 1) := by decide +kernel
theorem dX1_init_53 : decode cX1_init 53 = .ok (.invokestatic 30, 3) := by decide +kernel
theorem dX1_init_56 : decode cX1_init 56 = .ok (.return_, 1) := by decide +kernel
set_option maxRecDepth 20000 in
theorem ggX1_add_X2_isSign : GoodIn wsX1_add wsX2_isSign := goodIn_r _ [10, 11, 12, 19, 20, 21] (by decide +kernel) (by decide +kernel)
set_option maxRecDepth 20000 in
theorem gX1_add_X2_isSign_n40 : GoodIn wsX1_add (wsX2_isSign) := ggX1_add_X2_isSign
theorem dX1_add_0 : decode cX1_add 0 = .ok (.aload_n 0, 1) := by decide +kernel
theorem dX1_add_1 : decode cX1_add 1 = .ok (.getfield 36, 3) := by decide +kernel
theorem dX1_add_4 : decode cX1_add 4 = .ok (.bipush 16, 2) := by decide +kernel
theorem dX1_add_6 : decode cX1_add 6 = .ok (.if_icmp .lt 5, 3) := by decide +kernel
theorem dX1_add_9 : decode cX1_add 9 = .ok (.iconst 0, 1) := by decide +kernel
theorem dX1_add_10 : decode cX1_add 10 = .ok (.ireturn, 1) := by decide +kernel
theorem dX1_add_11 : decode cX1_add 11 = .ok (.aload_n 0, 1) := by decide +kernel
theorem dX1_add_12 : decode cX1_add 12 = .ok (.getfield 9, 3) := by decide +kernel
theorem dX1_add_15 : decode cX1_add 15 = .ok (.aload_n 0, 1) := by decide +kernel
theorem dX1_add_16 : decode cX1_add 16 = .ok (.getfield 36, 3) := by decide +kernel
theorem dX1_add_19 : decode cX1_add 19 = .ok (.aload_n 1, 1) := by decide +kernel
theorem dX1_add_20 : decode cX1_add 20 = .ok (.iconst 0, 1) := by decide +kernel
theorem dX1_add_21 : decode cX1_add 21 = .ok (.bipush 117, 2) := by decide +kernel
theorem dX1_add_23 : decode cX1_add 23 = .ok (.invokevirtual 40, 3) := by decide +kernel
theorem dX1_add_26 : decode cX1_add 26 = .ok (.ifCond .eq 7, 3) := by decide +kernel
theorem dX1_add_29 : decode cX1_add 29 = .ok (.iconst 1, 1) := by decide +kernel
theorem dX1_add_30 : decode cX1_add 30 = .ok (.goto 4, 3) := by decide +kernel
theorem dX1_add_33 : decode cX1_add 33 = .ok (.iconst 0, 1) := by decide +kernel
theorem dX1_add_34 : decode cX1_add 34 = .ok (.iastore, 1) := by decide +kernel
theorem dX1_add_35 : decode cX1_add 35 = .ok (.aload_n 0, 1) := by decide +kernel
theorem dX1_add_36 : decode cX1_add 36 = .ok (.getfield 15, 3) := by decide +kernel
theorem dX1_add_39 : decode cX1_add 39 = .ok (.aload_n 0, 1) := by decide +kernel
theorem dX1_add_40 : decode cX1_add 40 = .ok (.getfield 36, 3) := by decide +kernel
theorem dX1_add_43 : decode cX1_add 43 = .ok (.aload_n 1, 1) := by decide +kernel
theorem dX1_add_44 : decode cX1_add 44 = .ok (.getfield 46, 3) := by decide +kernel
theorem dX1_add_47 : decode cX1_add 47 = .ok (.iconst 0, 1) := by decide +kernel
theorem dX1_add_48 : decode cX1_add 48 = .ok (.iaload, 1) := by decide +kernel
theorem dX1_add_49 : decode cX1_add 49 = .ok (.iastore, 1) := by decide +kernel
theorem dX1_add_50 : decode cX1_add 50 = .ok (.aload_n 0, 1) := by decide +kernel
theorem dX1_add_51 : decode cX1_add 51 = .ok (.getfield 18, 3) := by decide +kernel
theorem dX1_add_54 : decode cX1_add 54 = .ok (.aload_n 0, 1) := by decide +kernel
theorem dX1_add_55 : decode cX1_add 55 = .ok (.getfield 36, 3) := by decide +kernel
theorem dX1_add_58 : decode cX1_add 58 = .ok (.aload_n 1, 1) := by decide +kernel
theorem dX1_add_59 : decode cX1_add 59 = .ok (.getfield 46, 3) := by decide +kernel
theorem dX1_add_62 : decode cX1_add 62 = .ok (.iconst 1, 1) := by decide +kernel
theorem dX1_add_63 : decode cX1_add 63 = .ok (.iaload, 1) := by decide +kernel
theorem dX1_add_64 : decode cX1_add 64 = .ok (.iastore, 1) := by decide +kernel
theorem dX1_add_65 : decode cX1_add 65 = .ok (.aload_n 0, 1) := by decide +kernel
theorem dX1_add_66 : decode cX1_add 66 = .ok (.getfield 21, 3) := by decide +kernel
theorem dX1_add_69 : decode cX1_add 69 = .ok (.aload_n 0, 1) := by decide +kernel
theorem dX1_add_70 : decode cX1_add 70 = .ok (.getfield 36, 3) := by decide +kernel
theorem dX1_add_73 : decode cX1_add 73 = .ok (.aload_n 1, 1) := by decide +kernel
theorem dX1_add_74 : decode cX1_add 74 = .ok (.getfield 46, 3) := by decide +kernel
theorem dX1_add_77 : decode cX1_add 77 = .ok (.iconst 2, 1) := by decide +kernel
theorem dX1_add_78 : decode cX1_add 78 = .ok (.iaload, 1) := by decide +kernel
theorem dX1_add_79 : decode cX1_add 79 = .ok (.iastore, 1) := by decide +kernel
theorem dX1_add_80 : decode cX1_add 80 = .ok (.aload_n 0, 1) := by decide +kernel
theorem dX1_add_81 : decode cX1_add 81 = .ok (.dup, 1) := by decide +kernel
theorem dX1_add_82 : decode cX1_add 82 = .ok (.getfield 36, 3) := by decide +kernel
theorem dX1_add_85 : decode cX1_add 85 = .ok (.iconst 1, 1) := by decide +kernel
theorem dX1_add_86 : decode cX1_add 86 = .ok (.iadd, 1) := by decide +kernel
theorem dX1_add_87 : decode cX1_add 87 = .ok (.putfield 36, 3) := by decide +kernel
theorem dX1_add_90 : decode cX1_add 90 = .ok (.iconst 1, 1) := by decide +kernel
theorem dX1_add_91 : decode cX1_add 91 = .ok (.ireturn, 1) := by decide +kernel
theorem dX1_remove_0 : decode cX1_remove 0 = .ok (.iload_n 1, 1) := by decide +kernel
theorem dX1_remove_1 : decode cX1_remove 1 = .ok (.istore_n 2, 1) := by decide +kernel
theorem dX1_remove_2 : decode cX1_remove 2 = .ok (.iload_n 2, 1) := by decide +kernel
theorem dX1_remove_3 : decode cX1_remove 3 = .ok (.iconst 1, 1) := by decide +kernel
theorem dX1_remove_4 : decode cX1_remove 4 = .ok (.iadd, 1) := by decide +kernel
theorem dX1_remove_5 : decode cX1_remove 5 = .ok (.aload_n 0, 1) := by decide +kernel
theorem dX1_remove_6 : decode cX1_remove 6 = .ok (.getfield 36, 3) := by decide +kernel
theorem dX1_remove_9 : decode cX1_remove 9 = .ok (.if_icmp .ge 65, 3) := by decide +kernel
theorem dX1_remove_12 : decode cX1_remove 12 = .ok (.aload_n 0, 1) := by decide +kernel
theorem dX1_remove_13 : decode cX1_remove 13 = .ok (.getfield 9, 3) := by decide +kernel
theorem dX1_remove_16 : decode cX1_remove 16 = .ok (.iload_n 2, 1) := by decide +kernel
theorem dX1_remove_17 : decode cX1_remove 17 = .ok (.aload_n 0, 1) := by decide +kernel
theorem dX1_remove_18 : decode cX1_remove 18 = .ok (.getfield 9, 3) := by decide +kernel
theorem dX1_remove_21 : decode cX1_remove 21 = .ok (.iload_n 2, 1) := by decide +kernel
theorem dX1_remove_22 : decode cX1_remove 22 = .ok (.iconst 1, 1) := by decide +kernel
theorem dX1_remove_23 : decode cX1_remove 23 = .ok (.iadd, 1) := by decide +kernel
theorem dX1_remove_24 : decode cX1_remove 24 = .ok (.iaload, 1) := by decide +kernel
theorem dX1_remove_25 : decode cX1_remove 25 = .ok (.iastore, 1) := by decide +kernel
theorem dX1_remove_26 : decode cX1_remove 26 = .ok (.aload_n 0, 1) := by decide +kernel
theorem dX1_remove_27 : decode cX1_remove 27 = .ok (.getfield 15, 3) := by decide +kernel
theorem dX1_remove_30 : decode cX1_remove 30 = .ok (.iload_n 2, 1) := by decide +kernel
theorem dX1_remove_31 : decode cX1_remove 31 = .ok (.aload_n 0, 1) := by decide +kernel
theorem dX1_remove_32 : decode cX1_remove 32 = .ok (.getfield 15, 3) := by decide +kernel
theorem dX1_remove_35 : decode cX1_remove 35 = .ok (.iload_n 2, 1) := by decide +kernel
theorem dX1_remove_36 : decode cX1_remove 36 = .ok (.iconst 1, 1) := by decide +kernel
theorem dX1_remove_37 : decode cX1_remove 37 = .ok (.iadd, 1) := by decide +kernel
theorem dX1_remove_38 : decode cX1_remove 38 = .ok (.iaload, 1) := by decide +kernel
theorem dX1_remove_39 : decode cX1_remove 39 = .ok (.iastore, 1) := by decide +kernel
theorem dX1_remove_40 : decode cX1_remove 40 = .ok (.aload_n 0, 1) := by decide +kernel
theorem dX1_remove_41 : decode cX1_remove 41 = .ok (.getfield 18, 3) := by decide +kernel
theorem dX1_remove_44 : decode cX1_remove 44 = .ok (.iload_n 2, 1) := by decide +kernel
theorem dX1_remove_45 : decode cX1_remove 45 = .ok (.aload_n 0, 1) := by decide +kernel
theorem dX1_remove_46 : decode cX1_remove 46 = .ok (.getfield 18, 3) := by decide +kernel
theorem dX1_remove_49 : decode cX1_remove 49 = .ok (.iload_n 2, 1) := by decide +kernel
theorem dX1_remove_50 : decode cX1_remove 50 = .ok (.iconst 1, 1) := by decide +kernel
theorem dX1_remove_51 : decode cX1_remove 51 = .ok (.iadd, 1) := by decide +kernel
theorem dX1_remove_52 : decode cX1_remove 52 = .ok (.iaload, 1) := by decide +kernel
theorem dX1_remove_53 : decode cX1_remove 53 = .ok (.iastore, 1) := by decide +kernel
theorem dX1_remove_54 : decode cX1_remove 54 = .ok (.aload_n 0, 1) := by decide +kernel
theorem dX1_remove_55 : decode cX1_remove 55 = .ok (.getfield 21, 3) := by decide +kernel
theorem dX1_remove_58 : decode cX1_remove 58 = .ok (.iload_n 2, 1) := by decide +kernel
theorem dX1_remove_59 : decode cX1_remove 59 = .ok (.aload_n 0, 1) := by decide +kernel
theorem dX1_remove_60 : decode cX1_remove 60 = .ok (.getfield 21, 3) := by decide +kernel
theorem dX1_remove_63 : decode cX1_remove 63 = .ok (.iload_n 2, 1) := by decide +kernel
theorem dX1_remove_64 : decode cX1_remove 64 = .ok (.iconst 1, 1) := by decide +kernel
theorem dX1_remove_65 : decode cX1_remove 65 = .ok (.iadd, 1) := by decide +kernel
theorem dX1_remove_66 : decode cX1_remove 66 = .ok (.iaload, 1) := by decide +kernel
theorem dX1_remove_67 : decode cX1_remove 67 = .ok (.iastore, 1) := by decide +kernel
theorem dX1_remove_68 : decode cX1_remove 68 = .ok (.iinc 2 1, 3) := by decide +kernel
theorem dX1_remove_71 : decode cX1_remove 71 = .ok (.goto (-69), 3) := by decide +kernel
theorem dX1_remove_74 : decode cX1_remove 74 = .ok (.aload_n 0, 1) := by decide +kernel
theorem dX1_remove_75 : decode cX1_remove 75 = .ok (.dup, 1) := by decide +kernel
theorem dX1_remove_76 : decode cX1_remove 76 = .ok (.getfield 36, 3) := by decide +kernel
theorem dX1_remove_79 : decode cX1_remove 79 = .ok (.iconst 1, 1) := by decide +kernel
theorem dX1_remove_80 : decode cX1_remove 80 = .ok (.isub, 1) := by decide +kernel
theorem dX1_remove_81 : decode cX1_remove 81 = .ok (.putfield 36, 3) := by decide +kernel
theorem dX1_remove_84 : decode cX1_remove 84 = .ok (.return_, 1) := by decide +kernel
theorem dX1_take_0 : decode cX1_take 0 = .ok (.aload_n 1, 1) := by decide +kernel
theorem dX1_take_1 : decode cX1_take 1 = .ok (.getfield 9, 3) := by decide +kernel
theorem dX1_take_4 : decode cX1_take 4 = .ok (.iconst 0, 1) := by decide +kernel
theorem dX1_take_5 : decode cX1_take 5 = .ok (.aload_n 0, 1) := by decide +kernel
theorem dX1_take_6 : decode cX1_take 6 = .ok (.getfield 9, 3) := by decide +kernel
theorem dX1_take_9 : decode cX1_take 9 = .ok (.iconst 0, 1) := by decide +kernel
theorem dX1_take_10 : decode cX1_take 10 = .ok (.bipush 16, 2) := by decide +kernel
theorem dX1_take_12 : decode cX1_take 12 = .ok (.invokestatic 30, 3) := by decide +kernel
theorem dX1_take_15 : decode cX1_take 15 = .ok (.aload_n 1, 1) := by decide +kernel
theorem dX1_take_16 : decode cX1_take 16 = .ok (.getfield 15, 3) := by decide +kernel
theorem dX1_take_19 : decode cX1_take 19 = .ok (.iconst 0, 1) := by decide +kernel
theorem dX1_take_20 : decode cX1_take 20 = .ok (.aload_n 0, 1) := by decide +kernel
theorem dX1_take_21 : decode cX1_take 21 = .ok (.getfield 15, 3) := by decide +kernel
theorem dX1_take_24 : decode cX1_take 24 = .ok (.iconst 0, 1) := by decide +kernel
theorem dX1_take_25 : decode cX1_take 25 = .ok (.bipush 16, 2) := by decide +kernel
theorem dX1_take_27 : decode cX1_take 27 = .ok (.invokestatic 30, 3) := by decide +kernel
theorem dX1_take_30 : decode cX1_take 30 = .ok (.aload_n 1, 1) := by decide +kernel
theorem dX1_take_31 : decode cX1_take 31 = .ok (.getfield 18, 3) := by decide +kernel
theorem dX1_take_34 : decode cX1_take 34 = .ok (.iconst 0, 1) := by decide +kernel
theorem dX1_take_35 : decode cX1_take 35 = .ok (.aload_n 0, 1) := by decide +kernel
theorem dX1_take_36 : decode cX1_take 36 = .ok (.getfield 18, 3) := by decide +kernel
theorem dX1_take_39 : decode cX1_take 39 = .ok (.iconst 0, 1) := by decide +kernel
theorem dX1_take_40 : decode cX1_take 40 = .ok (.bipush 16, 2) := by decide +kernel
theorem dX1_take_42 : decode cX1_take 42 = .ok (.invokestatic 30, 3) := by decide +kernel
theorem dX1_take_45 : decode cX1_take 45 = .ok (.aload_n 1, 1) := by decide +kernel
theorem dX1_take_46 : decode cX1_take 46 = .ok (.getfield 21, 3) := by decide +kernel
theorem dX1_take_49 : decode cX1_take 49 = .ok (.iconst 0, 1) := by decide +kernel
theorem dX1_take_50 : decode cX1_take 50 = .ok (.aload_n 0, 1) := by decide +kernel
theorem dX1_take_51 : decode cX1_take 51 = .ok (.getfield 21, 3) := by decide +kernel
theorem dX1_take_54 : decode cX1_take 54 = .ok (.iconst 0, 1) := by decide +kernel
theorem dX1_take_55 : decode cX1_take 55 = .ok (.bipush 16, 2) := by decide +kernel
theorem dX1_take_57 : decode cX1_take 57 = .ok (.invokestatic 30, 3) := by decide +kernel
theorem dX1_take_60 : decode cX1_take 60 = .ok (.aload_n 0, 1) := by decide +kernel
theorem dX1_take_61 : decode cX1_take 61 = .ok (.aload_n 1, 1) := by decide +kernel
theorem dX1_take_62 : decode cX1_take 62 = .ok (.getfield 36, 3) := by decide +kernel
theorem dX1_take_65 : decode cX1_take 65 = .ok (.putfield 36, 3) := by decide +kernel
theorem dX1_take_68 : decode cX1_take 68 = .ok (.aload_n 1, 1) := by decide +kernel
theorem dX1_take_69 : decode cX1_take 69 = .ok (.getfield 24, 3) := by decide +kernel
theorem dX1_take_72 : decode cX1_take 72 = .ok (.iconst 0, 1) := by decide +kernel
theorem dX1_take_73 : decode cX1_take 73 = .ok (.aload_n 0, 1) := by decide +kernel
theorem dX1_take_74 : decode cX1_take 74 = .ok (.getfield 24, 3) := by decide +kernel
theorem dX1_take_77 : decode cX1_take 77 = .ok (.iconst 0, 1) := by decide +kernel
theorem dX1_take_78 : decode cX1_take 78 = .ok (.iconst 5, 1) := by decide +kernel
theorem dX1_take_79 : decode cX1_take 79 = .ok (.invokestatic 30, 3) := by decide +kernel
theorem dX1_take_82 : decode cX1_take 82 = .ok (.return_, 1) := by decide +kernel
set_option maxRecDepth 20000 in
theorem ggX1_canBeStem_X4_isWithin : GoodIn wsX1_canBeStem wsX4_isWithin := goodIn_r _ [14] (by decide +kernel) (by decide +kernel)
set_option maxRecDepth 20000 in
theorem gX1_canBeStem_X4_isWithin_n49 : GoodIn wsX1_canBeStem (wsX4_isWithin) := ggX1_canBeStem_X4_isWithin
theorem dX1_canBeStem_0 : decode cX1_canBeStem 0 = .ok (.aload_n 0, 1) := by decide +kernel
theorem dX1_canBeStem_1 : decode cX1_canBeStem 1 = .ok (.getfield 9, 3) := by decide +kernel
theorem dX1_canBeStem_4 : decode cX1_canBeStem 4 = .ok (.iload_n 1, 1) := by decide +kernel
theorem dX1_canBeStem_5 : decode cX1_canBeStem 5 = .ok (.iaload, 1) := by decide +kernel
theorem dX1_canBeStem_6 : decode cX1_canBeStem 6 = .ok (.iconst 1, 1) := by decide +kernel
theorem dX1_canBeStem_7 : decode cX1_canBeStem 7 = .ok (.if_icmp .ne 72, 3) := by decide +kernel
theorem dX1_canBeStem_10 : decode cX1_canBeStem 10 = .ok (.aload_n 0, 1) := by decide +kernel
theorem dX1_canBeStem_11 : decode cX1_canBeStem 11 = .ok (.getfield 9, 3) := by decide +kernel
theorem dX1_canBeStem_14 : decode cX1_canBeStem 14 = .ok (.iload_n 2, 1) := by decide +kernel
theorem dX1_canBeStem_15 : decode cX1_canBeStem 15 = .ok (.iaload, 1) := by decide +kernel
theorem dX1_canBeStem_16 : decode cX1_canBeStem 16 = .ok (.ifCond .ne 63, 3) := by decide +kernel
theorem dX1_canBeStem_19 : decode cX1_canBeStem 19 = .ok (.aload_n 0, 1) := by decide +kernel
theorem dX1_canBeStem_20 : decode cX1_canBeStem 20 = .ok (.getfield 15, 3) := by decide +kernel
theorem dX1_canBeStem_23 : decode cX1_canBeStem 23 = .ok (.iload_n 2, 1) := by decide +kernel
theorem dX1_canBeStem_24 : decode cX1_canBeStem 24 = .ok (.iaload, 1) := by decide +kernel
theorem dX1_canBeStem_25 : decode cX1_canBeStem 25 = .ok (.aload_n 0, 1) := by decide +kernel
theorem dX1_canBeStem_26 : decode cX1_canBeStem 26 = .ok (.getfield 15, 3) := by decide +kernel
theorem dX1_canBeStem_29 : decode cX1_canBeStem 29 = .ok (.iload_n 1, 1) := by decide +kernel
theorem dX1_canBeStem_30 : decode cX1_canBeStem 30 = .ok (.iaload, 1) := by decide +kernel
theorem dX1_canBeStem_31 : decode cX1_canBeStem 31 = .ok (.isub, 1) := by decide +kernel
theorem dX1_canBeStem_32 : decode cX1_canBeStem 32 = .ok (.iconst 1, 1) := by decide +kernel
theorem dX1_canBeStem_33 : decode cX1_canBeStem 33 = .ok (.sipush 300, 3) := by decide +kernel
theorem dX1_canBeStem_36 : decode cX1_canBeStem 36 = .ok (.invokestatic 49, 3) := by decide +kernel
theorem dX1_canBeStem_39 : decode cX1_canBeStem 39 = .ok (.ifCond .eq 40, 3) := by decide +kernel
theorem dX1_canBeStem_42 : decode cX1_canBeStem 42 = .ok (.aload_n 0, 1) := by decide +kernel
theorem dX1_canBeStem_43 : decode cX1_canBeStem 43 = .ok (.getfield 21, 3) := by decide +kernel
theorem dX1_canBeStem_46 : decode cX1_canBeStem 46 = .ok (.iload_n 1, 1) := by decide +kernel
theorem dX1_canBeStem_47 : decode cX1_canBeStem 47 = .ok (.iaload, 1) := by decide +kernel
theorem dX1_canBeStem_48 : decode cX1_canBeStem 48 = .ok (.aload_n 0, 1) := by decide +kernel
theorem dX1_canBeStem_49 : decode cX1_canBeStem 49 = .ok (.getfield 21, 3) := by decide +kernel
theorem dX1_canBeStem_52 : decode cX1_canBeStem 52 = .ok (.iload_n 2, 1) := by decide +kernel
theorem dX1_canBeStem_53 : decode cX1_canBeStem 53 = .ok (.iaload, 1) := by decide +kernel
theorem dX1_canBeStem_54 : decode cX1_canBeStem 54 = .ok (.invokestatic 53, 3) := by decide +kernel
theorem dX1_canBeStem_57 : decode cX1_canBeStem 57 = .ok (.aload_n 0, 1) := by decide +kernel
theorem dX1_canBeStem_58 : decode cX1_canBeStem 58 = .ok (.getfield 18, 3) := by decide +kernel
theorem dX1_canBeStem_61 : decode cX1_canBeStem 61 = .ok (.iload_n 1, 1) := by decide +kernel
theorem dX1_canBeStem_62 : decode cX1_canBeStem 62 = .ok (.iaload, 1) := by decide +kernel
theorem dX1_canBeStem_63 : decode cX1_canBeStem 63 = .ok (.aload_n 0, 1) := by decide +kernel
theorem dX1_canBeStem_64 : decode cX1_canBeStem 64 = .ok (.getfield 18, 3) := by decide +kernel
theorem dX1_canBeStem_67 : decode cX1_canBeStem 67 = .ok (.iload_n 2, 1) := by decide +kernel
theorem dX1_canBeStem_68 : decode cX1_canBeStem 68 = .ok (.iaload, 1) := by decide +kernel
theorem dX1_canBeStem_69 : decode cX1_canBeStem 69 = .ok (.invokestatic 59, 3) := by decide +kernel
theorem dX1_canBeStem_72 : decode cX1_canBeStem 72 = .ok (.if_icmp .le 7, 3) := by decide +kernel
theorem dX1_canBeStem_75 : decode cX1_canBeStem 75 = .ok (.iconst 1, 1) := by decide +kernel
theorem dX1_canBeStem_76 : decode cX1_canBeStem 76 = .ok (.goto 4, 3) := by decide +kernel
theorem dX1_canBeStem_79 : decode cX1_canBeStem 79 = .ok (.iconst 0, 1) := by decide +kernel
theorem dX1_canBeStem_80 : decode cX1_canBeStem 80 = .ok (.ireturn, 1) := by decide +kernel
theorem dX2_init_0 : decode cX2_init 0 = .ok (.aload_n 0, 1) := by decide +kernel
theorem dX2_init_1 : decode cX2_init 1 = .ok (.invokespecial 3, 3) := by decide +kernel
theorem dX2_init_4 : decode cX2_init 4 = .ok (.aload_n 0, 1) := by decide +kernel
theorem dX2_init_5 : decode cX2_init 5 = .ok (.bipush 30, 2) := by decide +kernel
theorem dX2_init_7 : decode cX2_init 7 = .ok (.newarray .int, 2) := by decide +kernel
theorem dX2_init_9 : decode cX2_init 9 = .ok (.putfield 9, 3) := by decide +kernel
theorem dX2_init_12 : decode cX2_init 12 = .ok (.aload_n 0, 1) := by decide +kernel
theorem dX2_init_13 : decode cX2_init 13 = .ok (.iconst 3, 1) := by decide +kernel
theorem dX2_init_14 : decode cX2_init 14 = .ok (.newarray .int, 2) := by decide +kernel
theorem dX2_init_16 : decode cX2_init 16 = .ok (.putfield 15, 3) := by decide +kernel
theorem dX2_init_19 : decode cX2_init 19 = .ok (.return_, 1) := by decide +kernel
theorem dX2_add_0 : decode cX2_add 0 = .ok (.aload_n 0, 1) := by decide +kernel
theorem dX2_add_1 : decode cX2_add 1 = .ok (.getfield 18, 3) := by decide +kernel
theorem dX2_add_4 : decode cX2_add 4 = .ok (.bipush 30, 2) := by decide +kernel
theorem dX2_add_6 : decode cX2_add 6 = .ok (.if_icmp .lt 5, 3) := by decide +kernel
theorem dX2_add_9 : decode cX2_add 9 = .ok (.iconst 0, 1) := by decide +kernel
theorem dX2_add_10 : decode cX2_add 10 = .ok (.ireturn, 1) := by decide +kernel
theorem dX2_add_11 : decode cX2_add 11 = .ok (.aload_n 0, 1) := by decide +kernel
theorem dX2_add_12 : decode cX2_add 12 = .ok (.getfield 9, 3) := by decide +kernel
theorem dX2_add_15 : decode cX2_add 15 = .ok (.aload_n 0, 1) := by decide +kernel
theorem dX2_add_16 : decode cX2_add 16 = .ok (.getfield 18, 3) := by decide +kernel
theorem dX2_add_19 : decode cX2_add 19 = .ok (.iload_n 1, 1) := by decide +kernel
theorem dX2_add_20 : decode cX2_add 20 = .ok (.iastore, 1) := by decide +kernel
theorem dX2_add_21 : decode cX2_add 21 = .ok (.aload_n 0, 1) := by decide +kernel
theorem dX2_add_22 : decode cX2_add 22 = .ok (.dup, 1) := by decide +kernel
theorem dX2_add_23 : decode cX2_add 23 = .ok (.getfield 18, 3) := by decide +kernel
theorem dX2_add_26 : decode cX2_add 26 = .ok (.iconst 1, 1) := by decide +kernel
theorem dX2_add_27 : decode cX2_add 27 = .ok (.iadd, 1) := by decide +kernel
theorem dX2_add_28 : decode cX2_add 28 = .ok (.putfield 18, 3) := by decide +kernel
theorem dX2_add_31 : decode cX2_add 31 = .ok (.iconst 1, 1) := by decide +kernel
theorem dX2_add_32 : decode cX2_add 32 = .ok (.ireturn, 1) := by decide +kernel
theorem dX2_clear_0 : decode cX2_clear 0 = .ok (.aload_n 0, 1) := by decide +kernel
theorem dX2_clear_1 : decode cX2_clear 1 = .ok (.iconst 0, 1) := by decide +kernel
theorem dX2_clear_2 : decode cX2_clear 2 = .ok (.putfield 18, 3) := by decide +kernel
theorem dX2_clear_5 : decode cX2_clear 5 = .ok (.return_, 1) := by decide +kernel
set_option maxRecDepth 20000 in
theorem ggX2_read_X2_isSign : GoodIn wsX2_read wsX2_isSign := goodIn_r _ [8, 2, 9, 21, 22, 23] (by decide +kernel) (by decide +kernel)
set_option maxRecDepth 20000 in
theorem gX2_read_X2_isSign : GoodIn wsX2_read (wsV RX2 22 RX2 yX2_isSign wsX2_isSign) := goodIn_app (goodIn_of _ (by decide +kernel)) ggX2_read_X2_isSign
set_option maxRecDepth 20000 in
theorem ggX2_read_X2_readNumber : GoodIn wsX2_read wsX2_readNumber := goodIn_r _ [13, 9, 3, 14, 15, 16, 7, 17, 2, 18, 19, 20, 21, 22, 23] (by decide +kernel) (by decide +kernel)
set_option maxRecDepth 20000 in
theorem gX2_read_X2_readNumber : GoodIn wsX2_read (wsV RX2 26 RX2 yX2_readNumber wsX2_readNumber) := goodIn_app (goodIn_of _ (by decide +kernel)) ggX2_read_X2_readNumber
theorem dX2_read_0 : decode cX2_read 0 = .ok (.aload_n 0, 1) := by decide +kernel
theorem dX2_read_1 : decode cX2_read 1 = .ok (.iconst 0, 1) := by decide +kernel
theorem dX2_read_2 : decode cX2_read 2 = .ok (.bipush 117, 2) := by decide +kernel
theorem dX2_read_4 : decode cX2_read 4 = .ok (.invokevirtual 22, 3) := by decide +kernel
theorem dX2_read_7 : decode cX2_read 7 = .ok (.ifCond .ne 15, 3) := by decide +kernel
theorem dX2_read_10 : decode cX2_read 10 = .ok (.aload_n 0, 1) := by decide +kernel
theorem dX2_read_11 : decode cX2_read 11 = .ok (.iconst 0, 1) := by decide +kernel
theorem dX2_read_12 : decode cX2_read 12 = .ok (.bipush 100, 2) := by decide +kernel
theorem dX2_read_14 : decode cX2_read 14 = .ok (.invokevirtual 22, 3) := by decide +kernel
theorem dX2_read_17 : decode cX2_read 17 = .ok (.ifCond .ne 5, 3) := by decide +kernel
theorem dX2_read_20 : decode cX2_read 20 = .ok (.iconst 0, 1) := by decide +kernel
theorem dX2_read_21 : decode cX2_read 21 = .ok (.ireturn, 1) := by decide +kernel
theorem dX2_read_22 : decode cX2_read 22 = .ok (.iconst 1, 1) := by decide +kernel
theorem dX2_read_23 : decode cX2_read 23 = .ok (.istore_n 1, 1) := by decide +kernel
theorem dX2_read_24 : decode cX2_read 24 = .ok (.iconst 0, 1) := by decide +kernel
theorem dX2_read_25 : decode cX2_read 25 = .ok (.istore_n 2, 1) := by decide +kernel
theorem dX2_read_26 : decode cX2_read 26 = .ok (.iload_n 2, 1) := by decide +kernel
theorem dX2_read_27 : decode cX2_read 27 = .ok (.iconst 3, 1) := by decide +kernel
theorem dX2_read_28 : decode cX2_read 28 = .ok (.if_icmp .ge 52, 3) := by decide +kernel
theorem dX2_read_31 : decode cX2_read 31 = .ok (.aload_n 0, 1) := by decide +kernel
theorem dX2_read_32 : decode cX2_read 32 = .ok (.iload_n 2, 1) := by decide +kernel
theorem dX2_read_33 : decode cX2_read 33 = .ok (.iload_n 1, 1) := by decide +kernel
theorem dX2_read_34 : decode cX2_read 34 = .ok (.invokevirtual 26, 3) := by decide +kernel
theorem dX2_read_37 : decode cX2_read 37 = .ok (.istore_n 3, 1) := by decide +kernel
theorem dX2_read_38 : decode cX2_read 38 = .ok (.iload_n 1, 1) := by decide +kernel
theorem dX2_read_39 : decode cX2_read 39 = .ok (.iload_n 3, 1) := by decide +kernel
theorem dX2_read_40 : decode cX2_read 40 = .ok (.iadd, 1) := by decide +kernel
theorem dX2_read_41 : decode cX2_read 41 = .ok (.istore_n 1, 1) := by decide +kernel
theorem dX2_read_42 : decode cX2_read 42 = .ok (.iload_n 3, 1) := by decide +kernel
theorem dX2_read_43 : decode cX2_read 43 = .ok (.ifCond .ne 5, 3) := by decide +kernel
theorem dX2_read_46 : decode cX2_read 46 = .ok (.iload_n 1, 1) := by decide +kernel
theorem dX2_read_47 : decode cX2_read 47 = .ok (.ireturn, 1) := by decide +kernel
theorem dX2_read_48 : decode cX2_read 48 = .ok (.iload_n 2, 1) := by decide +kernel
theorem dX2_read_49 : decode cX2_read 49 = .ok (.getstatic 30, 3) := by decide +kernel
theorem dX2_read_52 : decode cX2_read 52 = .ok (.arraylength, 1) := by decide +kernel
theorem dX2_read_53 : decode cX2_read 53 = .ok (.if_icmp .ge 21, 3) := by decide +kernel
theorem dX2_read_56 : decode cX2_read 56 = .ok (.aload_n 0, 1) := by decide +kernel
theorem dX2_read_57 : decode cX2_read 57 = .ok (.iload_n 1, 1) := by decide +kernel
theorem dX2_read_58 : decode cX2_read 58 = .ok (.getstatic 30, 3) := by decide +kernel
theorem dX2_read_61 : decode cX2_read 61 = .ok (.iload_n 2, 1) := by decide +kernel
theorem dX2_read_62 : decode cX2_read 62 = .ok (.caload, 1) := by decide +kernel
theorem dX2_read_63 : decode cX2_read 63 = .ok (.invokevirtual 22, 3) := by decide +kernel
theorem dX2_read_66 : decode cX2_read 66 = .ok (.ifCond .ne 5, 3) := by decide +kernel
theorem dX2_read_69 : decode cX2_read 69 = .ok (.iload_n 1, 1) := by decide +kernel
theorem dX2_read_70 : decode cX2_read 70 = .ok (.ireturn, 1) := by decide +kernel
theorem dX2_read_71 : decode cX2_read 71 = .ok (.iinc 1 1, 3) := by decide +kernel
theorem dX2_read_74 : decode cX2_read 74 = .ok (.iinc 2 1, 3) := by decide +kernel
theorem dX2_read_77 : decode cX2_read 77 = .ok (.goto (-51), 3) := by decide +kernel
theorem dX2_read_80 : decode cX2_read 80 = .ok (.iload_n 1, 1) := by decide +kernel
theorem dX2_read_81 : decode cX2_read 81 = .ok (.aload_n 0, 1) := by decide +kernel
theorem dX2_read_82 : decode cX2_read 82 = .ok (.getfield 18, 3) := by decide +kernel
theorem dX2_read_85 : decode cX2_read 85 = .ok (.if_icmp .ge 5, 3) := by decide +kernel
theorem dX2_read_88 : decode cX2_read 88 = .ok (.iload_n 1, 1) := by decide +kernel
theorem dX2_read_89 : decode cX2_read 89 = .ok (.ireturn, 1) := by decide +kernel
theorem dX2_read_90 : decode cX2_read 90 = .ok (.aload_n 0, 1) := by decide +kernel
theorem dX2_read_91 : decode cX2_read 91 = .ok (.getfield 15, 3) := by decide +kernel
theorem dX2_read_94 : decode cX2_read 94 = .ok (.iconst 2, 1) := by decide +kernel
theorem dX2_read_95 : decode cX2_read 95 = .ok (.iaload, 1) := by decide +kernel
theorem dX2_read_96 : decode cX2_read 96 = .ok (.aload_n 0, 1) := by decide +kernel
theorem dX2_read_97 : decode cX2_read 97 = .ok (.getfield 15, 3) := by decide +kernel
theorem dX2_read_100 : decode cX2_read 100 = .ok (.iconst 1, 1) := by decide +kernel
theorem dX2_read_101 : decode cX2_read 101 = .ok (.iaload, 1) := by decide +kernel
theorem dX2_read_102 : decode cX2_read 102 = .ok (.if_icmp .le 8, 3) := by decide +kernel
theorem dX2_read_105 : decode cX2_read 105 = .ok (.bipush (-6), 2) := by decide +kernel
theorem dX2_read_107 : decode cX2_read 107 = .ok (.goto 7, 3) := by decide +kernel
theorem dX2_read_110 : decode cX2_read 110 = .ok (.aload_n 0, 1) := by decide +kernel
theorem dX2_read_111 : decode cX2_read 111 = .ok (.getfield 18, 3) := by decide +kernel
theorem dX2_read_114 : decode cX2_read 114 = .ok (.ireturn, 1) := by decide +kernel
theorem dX2_isSign_0 : decode cX2_isSign 0 = .ok (.iload_n 1, 1) := by decide +kernel
theorem dX2_isSign_1 : decode cX2_isSign 1 = .ok (.ifCond .lt 25, 3) := by decide +kernel
theorem dX2_isSign_4 : decode cX2_isSign 4 = .ok (.iload_n 1, 1) := by decide +kernel
theorem dX2_isSign_5 : decode cX2_isSign 5 = .ok (.aload_n 0, 1) := by decide +kernel
theorem dX2_isSign_6 : decode cX2_isSign 6 = .ok (.getfield 18, 3) := by decide +kernel
theorem dX2_isSign_9 : decode cX2_isSign 9 = .ok (.if_icmp .ge 17, 3) := by decide +kernel
theorem dX2_isSign_12 : decode cX2_isSign 12 = .ok (.aload_n 0, 1) := by decide +kernel
theorem dX2_isSign_13 : decode cX2_isSign 13 = .ok (.getfield 9, 3) := by decide +kernel
theorem dX2_isSign_16 : decode cX2_isSign 16 = .ok (.iload_n 1, 1) := by decide +kernel
theorem dX2_isSign_17 : decode cX2_isSign 17 = .ok (.iaload, 1) := by decide +kernel
theorem dX2_isSign_18 : decode cX2_isSign 18 = .ok (.iload_n 2, 1) := by decide +kernel
theorem dX2_isSign_19 : decode cX2_isSign 19 = .ok (.if_icmp .ne 7, 3) := by decide +kernel
theorem dX2_isSign_22 : decode cX2_isSign 22 = .ok (.iconst 1, 1) := by decide +kernel
theorem dX2_isSign_23 : decode cX2_isSign 23 = .ok (.goto 4, 3) := by decide +kernel
theorem dX2_isSign_26 : decode cX2_isSign 26 = .ok (.iconst 0, 1) := by decide +kernel
theorem dX2_isSign_27 : decode cX2_isSign 27 = .ok (.ireturn, 1) := by decide +kernel
set_option maxRecDepth 20000 in
theorem ggX2_readNumber_X2_isFigure : GoodIn wsX2_readNumber wsX2_isFigure := goodIn_r _ [7, 8, 1, 9, 10, 11, 12, 13, 14] (by decide +kernel) (by decide +kernel)
set_option maxRecDepth 20000 in
theorem gX2_readNumber_X2_isFigure : GoodIn wsX2_readNumber (wsV RX2 34 RX2 yX2_isFigure wsX2_isFigure) := goodIn_app (goodIn_of _ (by decide +kernel)) ggX2_readNumber_X2_isFigure
theorem dX2_readNumber_0 : decode cX2_readNumber 0 = .ok (.iconst 0, 1) := by decide +kernel
theorem dX2_readNumber_1 : decode cX2_readNumber 1 = .ok (.istore_n 3, 1) := by decide +kernel
theorem dX2_readNumber_2 : decode cX2_readNumber 2 = .ok (.iconst 0, 1) := by decide +kernel
theorem dX2_readNumber_3 : decode cX2_readNumber 3 = .ok (.istore 4, 2) := by decide +kernel
theorem dX2_readNumber_5 : decode cX2_readNumber 5 = .ok (.iload_n 3, 1) := by decide +kernel
theorem dX2_readNumber_6 : decode cX2_readNumber 6 = .ok (.iconst 3, 1) := by decide +kernel
theorem dX2_readNumber_7 : decode cX2_readNumber 7 = .ok (.if_icmp .ge 38, 3) := by decide +kernel
theorem dX2_readNumber_10 : decode cX2_readNumber 10 = .ok (.aload_n 0, 1) := by decide +kernel
theorem dX2_readNumber_11 : decode cX2_readNumber 11 = .ok (.iload_n 2, 1) := by decide +kernel
theorem dX2_readNumber_12 : decode cX2_readNumber 12 = .ok (.iload_n 3, 1) := by decide +kernel
theorem dX2_readNumber_13 : decode cX2_readNumber 13 = .ok (.iadd, 1) := by decide +kernel
theorem dX2_readNumber_14 : decode cX2_readNumber 14 = .ok (.invokevirtual 34, 3) := by decide +kernel
theorem dX2_readNumber_17 : decode cX2_readNumber 17 = .ok (.ifCond .eq 28, 3) := by decide +kernel
theorem dX2_readNumber_20 : decode cX2_readNumber 20 = .ok (.bipush 10, 2) := by decide +kernel
theorem dX2_readNumber_22 : decode cX2_readNumber 22 = .ok (.iload 4, 2) := by decide +kernel
theorem dX2_readNumber_24 : decode cX2_readNumber 24 = .ok (.imul, 1) := by decide +kernel
theorem dX2_readNumber_25 : decode cX2_readNumber 25 = .ok (.aload_n 0, 1) := by decide +kernel
theorem dX2_readNumber_26 : decode cX2_readNumber 26 = .ok (.getfield 9, 3) := by decide +kernel
theorem dX2_readNumber_29 : decode cX2_readNumber 29 = .ok (.iload_n 2, 1) := by decide +kernel
theorem dX2_readNumber_30 : decode cX2_readNumber 30 = .ok (.iload_n 3, 1) := by decide +kernel
theorem dX2_readNumber_31 : decode cX2_readNumber 31 = .ok (.iadd, 1) := by decide +kernel
theorem dX2_readNumber_32 : decode cX2_readNumber 32 = .ok (.iaload, 1) := by decide +kernel
theorem dX2_readNumber_33 : decode cX2_readNumber 33 = .ok (.iadd, 1) := by decide +kernel
theorem dX2_readNumber_34 : decode cX2_readNumber 34 = .ok (.bipush 48, 2) := by decide +kernel
theorem dX2_readNumber_36 : decode cX2_readNumber 36 = .ok (.isub, 1) := by decide +kernel
theorem dX2_readNumber_37 : decode cX2_readNumber 37 = .ok (.istore 4, 2) := by decide +kernel
theorem dX2_readNumber_39 : decode cX2_readNumber 39 = .ok (.iinc 3 1, 3) := by decide +kernel
theorem dX2_readNumber_42 : decode cX2_readNumber 42 = .ok (.goto (-37), 3) := by decide +kernel
theorem dX2_readNumber_45 : decode cX2_readNumber 45 = .ok (.aload_n 0, 1) := by decide +kernel
theorem dX2_readNumber_46 : decode cX2_readNumber 46 = .ok (.getfield 15, 3) := by decide +kernel
theorem dX2_readNumber_49 : decode cX2_readNumber 49 = .ok (.iload_n 1, 1) := by decide +kernel
theorem dX2_readNumber_50 : decode cX2_readNumber 50 = .ok (.iload 4, 2) := by decide +kernel
theorem dX2_readNumber_52 : decode cX2_readNumber 52 = .ok (.iastore, 1) := by decide +kernel
theorem dX2_readNumber_53 : decode cX2_readNumber 53 = .ok (.iload_n 3, 1) := by decide +kernel
theorem dX2_readNumber_54 : decode cX2_readNumber 54 = .ok (.ireturn, 1) := by decide +kernel
set_option maxRecDepth 20000 in
theorem ggX2_isFigure_X4_isWithin : GoodIn wsX2_isFigure wsX4_isWithin := goodIn_r _ [5] (by decide +kernel) (by decide +kernel)
set_option maxRecDepth 20000 in
theorem gX2_isFigure_X4_isWithin_n38 : GoodIn wsX2_isFigure (wsX4_isWithin) := ggX2_isFigure_X4_isWithin
theorem dX2_isFigure_0 : decode cX2_isFigure 0 = .ok (.iload_n 1, 1) := by decide +kernel
theorem dX2_isFigure_1 : decode cX2_isFigure 1 = .ok (.ifCond .lt 31, 3) := by decide +kernel
theorem dX2_isFigure_4 : decode cX2_isFigure 4 = .ok (.iload_n 1, 1) := by decide +kernel
theorem dX2_isFigure_5 : decode cX2_isFigure 5 = .ok (.aload_n 0, 1) := by decide +kernel
theorem dX2_isFigure_6 : decode cX2_isFigure 6 = .ok (.getfield 18, 3) := by decide +kernel
theorem dX2_isFigure_9 : decode cX2_isFigure 9 = .ok (.if_icmp .ge 23, 3) := by decide +kernel
theorem dX2_isFigure_12 : decode cX2_isFigure 12 = .ok (.aload_n 0, 1) := by decide +kernel
theorem dX2_isFigure_13 : decode cX2_isFigure 13 = .ok (.getfield 9, 3) := by decide +kernel
theorem dX2_isFigure_16 : decode cX2_isFigure 16 = .ok (.iload_n 1, 1) := by decide +kernel
theorem dX2_isFigure_17 : decode cX2_isFigure 17 = .ok (.iaload, 1) := by decide +kernel
theorem dX2_isFigure_18 : decode cX2_isFigure 18 = .ok (.bipush 48, 2) := by decide +kernel
theorem dX2_isFigure_20 : decode cX2_isFigure 20 = .ok (.bipush 57, 2) := by decide +kernel
theorem dX2_isFigure_22 : decode cX2_isFigure 22 = .ok (.invokestatic 38, 3) := by decide +kernel
theorem dX2_isFigure_25 : decode cX2_isFigure 25 = .ok (.ifCond .eq 7, 3) := by decide +kernel
theorem dX2_isFigure_28 : decode cX2_isFigure 28 = .ok (.iconst 1, 1) := by decide +kernel
theorem dX2_isFigure_29 : decode cX2_isFigure 29 = .ok (.goto 4, 3) := by decide +kernel
theorem dX2_isFigure_32 : decode cX2_isFigure 32 = .ok (.iconst 0, 1) := by decide +kernel
theorem dX2_isFigure_33 : decode cX2_isFigure 33 = .ok (.ireturn, 1) := by decide +kernel

