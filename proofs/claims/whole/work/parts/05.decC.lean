theorem dX5_init_0 : decode cX5_init 0 = .ok (.aload_n 0, 1) := by decide +kernel
theorem dX5_init_1 : decode cX5_init 1 = .ok (.invokespecial 1, 3) := by decide +kernel
theorem dX5_init_4 : decode cX5_init 4 = .ok (.aload_n 0, 1) := by decide +kernel
theorem dX5_init_5 : decode cX5_init 5 = .ok (.bipush 64, 2) := by decide +kernel
theorem dX5_init_7 : decode cX5_init 7 = .ok (.newarray .int, 2) := by decide +kernel
theorem dX5_init_9 : decode cX5_init 9 = .ok (.putfield 7, 3) := by decide +kernel
theorem dX5_init_12 : decode cX5_init 12 = .ok (.aload_n 0, 1) := by decide +kernel
theorem dX5_init_13 : decode cX5_init 13 = .ok (.iconst 5, 1) := by decide +kernel
theorem dX5_init_14 : decode cX5_init 14 = .ok (.newarray .int, 2) := by decide +kernel
theorem dX5_init_16 : decode cX5_init 16 = .ok (.putfield 13, 3) := by decide +kernel
theorem dX5_init_19 : decode cX5_init 19 = .ok (.aload_n 0, 1) := by decide +kernel
theorem dX5_init_20 : decode cX5_init 20 = .ok (.bipush 30, 2) := by decide +kernel
theorem dX5_init_22 : decode cX5_init 22 = .ok (.newarray .int, 2) := by decide +kernel
theorem dX5_init_24 : decode cX5_init 24 = .ok (.putfield 16, 3) := by decide +kernel
theorem dX5_init_27 : decode cX5_init 27 = .ok (.aload_n 0, 1) := by decide +kernel
theorem dX5_init_28 : decode cX5_init 28 = .ok (.iconst 4, 1) := by decide +kernel
theorem dX5_init_29 : decode cX5_init 29 = .ok (.newarray .int, 2) := by decide +kernel
theorem dX5_init_31 : decode cX5_init 31 = .ok (.putfield 19, 3) := by decide +kernel
theorem dX5_init_34 : decode cX5_init 34 = .ok (.aload_n 0, 1) := by decide +kernel
theorem dX5_init_35 : decode cX5_init 35 = .ok (.bipush 8, 2) := by decide +kernel
theorem dX5_init_37 : decode cX5_init 37 = .ok (.newarray .int, 2) := by decide +kernel
theorem dX5_init_39 : decode cX5_init 39 = .ok (.putfield 22, 3) := by decide +kernel
theorem dX5_init_42 : decode cX5_init 42 = .ok (.aload_n 0, 1) := by decide +kernel
theorem dX5_init_43 : decode cX5_init 43 = .ok (.bipush 8, 2) := by decide +kernel
theorem dX5_init_45 : decode cX5_init 45 = .ok (.newarray .int, 2) := by decide +kernel
theorem dX5_init_47 : decode cX5_init 47 = .ok (.putfield 25, 3) := by decide +kernel
theorem dX5_init_50 : decode cX5_init 50 = .ok (.aload_n 0, 1) := by decide +kernel
theorem dX5_init_51 : decode cX5_init 51 = .ok (.bipush 8, 2) := by decide +kernel
theorem dX5_init_53 : decode cX5_init 53 = .ok (.newarray .int, 2) := by decide +kernel
theorem dX5_init_55 : decode cX5_init 55 = .ok (.putfield 28, 3) := by decide +kernel
theorem dX5_init_58 : decode cX5_init 58 = .ok (.aload_n 0, 1) := by decide +kernel
theorem dX5_init_59 : decode cX5_init 59 = .ok (.bipush 8, 2) := by decide +kernel
theorem dX5_init_61 : decode cX5_init 61 = .ok (.newarray .int, 2) := by decide +kernel
theorem dX5_init_63 : decode cX5_init 63 = .ok (.putfield 31, 3) := by decide +kernel
theorem dX5_init_66 : decode cX5_init 66 = .ok (.aload_n 0, 1) := by decide +kernel
theorem dX5_init_67 : decode cX5_init 67 = .ok (.bipush 8, 2) := by decide +kernel
theorem dX5_init_69 : decode cX5_init 69 = .ok (.newarray .int, 2) := by decide +kernel
theorem dX5_init_71 : decode cX5_init 71 = .ok (.putfield 34, 3) := by decide +kernel
theorem dX5_init_74 : decode cX5_init 74 = .ok (.aload_n 0, 1) := by decide +kernel
theorem dX5_init_75 : decode cX5_init 75 = .ok (.bipush 16, 2) := by decide +kernel
theorem dX5_init_77 : decode cX5_init 77 = .ok (.newarray .int, 2) := by decide +kernel
theorem dX5_init_79 : decode cX5_init 79 = .ok (.putfield 37, 3) := by decide +kernel
theorem dX5_init_82 : decode cX5_init 82 = .ok (.aload_n 0, 1) := by decide +kernel
theorem dX5_init_83 : decode cX5_init 83 = .ok (.bipush 8, 2) := by decide +kernel
theorem dX5_init_85 : decode cX5_init 85 = .ok (.newarray .int, 2) := by decide +kernel
theorem dX5_init_87 : decode cX5_init 87 = .ok (.putfield 40, 3) := by decide +kernel
theorem dX5_init_90 : decode cX5_init 90 = .ok (.aload_n 0, 1) := by decide +kernel
theorem dX5_init_91 : decode cX5_init 91 = .ok (.bipush 8, 2) := by decide +kernel
theorem dX5_init_93 : decode cX5_init 93 = .ok (.newarray .int, 2) := by decide +kernel
theorem dX5_init_95 : decode cX5_init 95 = .ok (.putfield 43, 3) := by decide +kernel
theorem dX5_init_98 : decode cX5_init 98 = .ok (.aload_n 0, 1) := by decide +kernel
theorem dX5_init_99 : decode cX5_init 99 = .ok (.bipush 8, 2) := by decide +kernel
theorem dX5_init_101 : decode cX5_init 101 = .ok (.newarray .int, 2) := by decide +kernel
theorem dX5_init_103 : decode cX5_init 103 = .ok (.putfield 46, 3) := by decide +kernel
theorem dX5_init_106 : decode cX5_init 106 = .ok (.aload_n 0, 1) := by decide +kernel
theorem dX5_init_107 : decode cX5_init 107 = .ok (.sipush 488, 3) := by decide +kernel
theorem dX5_init_110 : decode cX5_init 110 = .ok (.newarray .long, 2) := by decide +kernel
theorem dX5_init_112 : decode cX5_init 112 = .ok (.putfield 49, 3) := by decide +kernel
theorem dX5_init_115 : decode cX5_init 115 = .ok (.aload_n 0, 1) := by decide +kernel
theorem dX5_init_116 : decode cX5_init 116 = .ok (.bipush 8, 2) := by decide +kernel
theorem dX5_init_118 : decode cX5_init 118 = .ok (.newarray .int, 2) := by decide +kernel
theorem dX5_init_120 : decode cX5_init 120 = .ok (.putfield 53, 3) := by decide +kernel
theorem dX5_init_123 : decode cX5_init 123 = .ok (.aload_n 0, 1) := by decide +kernel
theorem dX5_init_124 : decode cX5_init 124 = .ok (.bipush 8, 2) := by decide +kernel
theorem dX5_init_126 : decode cX5_init 126 = .ok (.newarray .int, 2) := by decide +kernel
theorem dX5_init_128 : decode cX5_init 128 = .ok (.putfield 56, 3) := by decide +kernel
theorem dX5_init_131 : decode cX5_init 131 = .ok (.aload_n 0, 1) := by decide +kernel
theorem dX5_init_132 : decode cX5_init 132 = .ok (.sipush 140, 3) := by decide +kernel
theorem dX5_init_135 : decode cX5_init 135 = .ok (.newarray .int, 2) := by decide +kernel
theorem dX5_init_137 : decode cX5_init 137 = .ok (.putfield 59, 3) := by decide +kernel
theorem dX5_init_140 : decode cX5_init 140 = .ok (.aload_n 0, 1) := by decide +kernel
theorem dX5_init_141 : decode cX5_init 141 = .ok (.iconst 2, 1) := by decide +kernel
theorem dX5_init_142 : decode cX5_init 142 = .ok (.newarray .boolean, 2) := by decide +kernel
theorem dX5_init_144 : decode cX5_init 144 = .ok (.putfield 62, 3) := by decide +kernel
theorem dX5_init_147 : decode cX5_init 147 = .ok (.aload_n 0, 1) := by decide +kernel
theorem dX5_init_148 : decode cX5_init 148 = .ok (.getfield 13, 3) := by decide +kernel
theorem dX5_init_151 : decode cX5_init 151 = .ok (.iconst 0, 1) := by decide +kernel
theorem dX5_init_152 : decode cX5_init 152 = .ok (.bipush 20, 2) := by decide +kernel
theorem dX5_init_154 : decode cX5_init 154 = .ok (.iastore, 1) := by decide +kernel
theorem dX5_init_155 : decode cX5_init 155 = .ok (.aload_n 0, 1) := by decide +kernel
theorem dX5_init_156 : decode cX5_init 156 = .ok (.getfield 13, 3) := by decide +kernel
theorem dX5_init_159 : decode cX5_init 159 = .ok (.iconst 1, 1) := by decide +kernel
theorem dX5_init_160 : decode cX5_init 160 = .ok (.iconst 1, 1) := by decide +kernel
theorem dX5_init_161 : decode cX5_init 161 = .ok (.iastore, 1) := by decide +kernel
theorem dX5_init_162 : decode cX5_init 162 = .ok (.aload_n 0, 1) := by decide +kernel
theorem dX5_init_163 : decode cX5_init 163 = .ok (.getfield 13, 3) := by decide +kernel
theorem dX5_init_166 : decode cX5_init 166 = .ok (.iconst 2, 1) := by decide +kernel
theorem dX5_init_167 : decode cX5_init 167 = .ok (.iconst 1, 1) := by decide +kernel
theorem dX5_init_168 : decode cX5_init 168 = .ok (.iastore, 1) := by decide +kernel
theorem dX5_init_169 : decode cX5_init 169 = .ok (.return_, 1) := by decide +kernel
theorem dX5_in_0 : decode cX5_in 0 = .ok (.iload_n 0, 1) := by decide +kernel
theorem dX5_in_1 : decode cX5_in 1 = .ok (.iload_n 1, 1) := by decide +kernel
theorem dX5_in_2 : decode cX5_in 2 = .ok (.if_icmp .lt 12, 3) := by decide +kernel
theorem dX5_in_5 : decode cX5_in 5 = .ok (.iload_n 0, 1) := by decide +kernel
theorem dX5_in_6 : decode cX5_in 6 = .ok (.iload_n 2, 1) := by decide +kernel
theorem dX5_in_7 : decode cX5_in 7 = .ok (.if_icmp .gt 7, 3) := by decide +kernel
theorem dX5_in_10 : decode cX5_in 10 = .ok (.iconst 1, 1) := by decide +kernel
theorem dX5_in_11 : decode cX5_in 11 = .ok (.goto 4, 3) := by decide +kernel
theorem dX5_in_14 : decode cX5_in 14 = .ok (.iconst 0, 1) := by decide +kernel
theorem dX5_in_15 : decode cX5_in 15 = .ok (.ireturn, 1) := by decide +kernel
set_option maxRecDepth 20000 in
theorem ggX5_isFigure_X5_in : GoodIn wsX5_isFigure wsX5_in := goodIn_r _ [4] (by decide +kernel) (by decide +kernel)
set_option maxRecDepth 20000 in
theorem gX5_isFigure_X5_in : GoodIn wsX5_isFigure (va_wsS RX5 66 yX5_in wsX5_in) := goodIn_app (goodIn_of _ (by decide +kernel)) ggX5_isFigure_X5_in
theorem dX5_isFigure_0 : decode cX5_isFigure 0 = .ok (.iload_n 0, 1) := by decide +kernel
theorem dX5_isFigure_1 : decode cX5_isFigure 1 = .ok (.bipush 48, 2) := by decide +kernel
theorem dX5_isFigure_3 : decode cX5_isFigure 3 = .ok (.bipush 57, 2) := by decide +kernel
theorem dX5_isFigure_5 : decode cX5_isFigure 5 = .ok (.invokestatic 66, 3) := by decide +kernel
theorem dX5_isFigure_8 : decode cX5_isFigure 8 = .ok (.ireturn, 1) := by decide +kernel
set_option maxRecDepth 20000 in
theorem ggX5_say_X5_in : GoodIn wsX5_say wsX5_in := goodIn_r _ [6] (by decide +kernel) (by decide +kernel)
set_option maxRecDepth 20000 in
theorem gX5_say_X5_in : GoodIn wsX5_say (va_wsS RX5 66 yX5_in wsX5_in) := goodIn_app (goodIn_of _ (by decide +kernel)) ggX5_say_X5_in
theorem dX5_say_0 : decode cX5_say 0 = .ok (.iload_n 1, 1) := by decide +kernel
theorem dX5_say_1 : decode cX5_say 1 = .ok (.bipush 33, 2) := by decide +kernel
theorem dX5_say_3 : decode cX5_say 3 = .ok (.bipush 126, 2) := by decide +kernel
theorem dX5_say_5 : decode cX5_say 5 = .ok (.invokestatic 66, 3) := by decide +kernel
theorem dX5_say_8 : decode cX5_say 8 = .ok (.ifCond .ne 6, 3) := by decide +kernel
theorem dX5_say_11 : decode cX5_say 11 = .ok (.bipush (-2), 2) := by decide +kernel
theorem dX5_say_13 : decode cX5_say 13 = .ok (.ireturn, 1) := by decide +kernel
theorem dX5_say_14 : decode cX5_say 14 = .ok (.aload_n 0, 1) := by decide +kernel
theorem dX5_say_15 : decode cX5_say 15 = .ok (.getfield 70, 3) := by decide +kernel
theorem dX5_say_18 : decode cX5_say 18 = .ok (.bipush 30, 2) := by decide +kernel
theorem dX5_say_20 : decode cX5_say 20 = .ok (.if_icmp .ne 6, 3) := by decide +kernel
theorem dX5_say_23 : decode cX5_say 23 = .ok (.bipush (-4), 2) := by decide +kernel
theorem dX5_say_25 : decode cX5_say 25 = .ok (.ireturn, 1) := by decide +kernel
theorem dX5_say_26 : decode cX5_say 26 = .ok (.aload_n 0, 1) := by decide +kernel
theorem dX5_say_27 : decode cX5_say 27 = .ok (.getfield 16, 3) := by decide +kernel
theorem dX5_say_30 : decode cX5_say 30 = .ok (.aload_n 0, 1) := by decide +kernel
theorem dX5_say_31 : decode cX5_say 31 = .ok (.getfield 70, 3) := by decide +kernel
theorem dX5_say_34 : decode cX5_say 34 = .ok (.iload_n 1, 1) := by decide +kernel
theorem dX5_say_35 : decode cX5_say 35 = .ok (.iastore, 1) := by decide +kernel
theorem dX5_say_36 : decode cX5_say 36 = .ok (.aload_n 0, 1) := by decide +kernel
theorem dX5_say_37 : decode cX5_say 37 = .ok (.dup, 1) := by decide +kernel
theorem dX5_say_38 : decode cX5_say 38 = .ok (.getfield 70, 3) := by decide +kernel
theorem dX5_say_41 : decode cX5_say 41 = .ok (.iconst 1, 1) := by decide +kernel
theorem dX5_say_42 : decode cX5_say 42 = .ok (.iadd, 1) := by decide +kernel
theorem dX5_say_43 : decode cX5_say 43 = .ok (.putfield 70, 3) := by decide +kernel
theorem dX5_say_46 : decode cX5_say 46 = .ok (.aload_n 0, 1) := by decide +kernel
theorem dX5_say_47 : decode cX5_say 47 = .ok (.getfield 70, 3) := by decide +kernel
theorem dX5_say_50 : decode cX5_say 50 = .ok (.ireturn, 1) := by decide +kernel
theorem dX5_wipe_0 : decode cX5_wipe 0 = .ok (.aload_n 0, 1) := by decide +kernel
theorem dX5_wipe_1 : decode cX5_wipe 1 = .ok (.getfield 70, 3) := by decide +kernel
theorem dX5_wipe_4 : decode cX5_wipe 4 = .ok (.istore_n 1, 1) := by decide +kernel
theorem dX5_wipe_5 : decode cX5_wipe 5 = .ok (.aload_n 0, 1) := by decide +kernel
theorem dX5_wipe_6 : decode cX5_wipe 6 = .ok (.iconst 0, 1) := by decide +kernel
theorem dX5_wipe_7 : decode cX5_wipe 7 = .ok (.putfield 70, 3) := by decide +kernel
theorem dX5_wipe_10 : decode cX5_wipe 10 = .ok (.iload_n 1, 1) := by decide +kernel
theorem dX5_wipe_11 : decode cX5_wipe 11 = .ok (.ireturn, 1) := by decide +kernel
set_option maxRecDepth 20000 in
theorem ggX5_faultOf_X5_isFigure : GoodIn wsX5_faultOf wsX5_isFigure := goodIn_r _ [7, 8, 9, 6, 10] (by decide +kernel) (by decide +kernel)
set_option maxRecDepth 20000 in
theorem gX5_faultOf_X5_isFigure : GoodIn wsX5_faultOf (va_wsS RX5 74 yX5_isFigure wsX5_isFigure) := goodIn_app (goodIn_of _ (by decide +kernel)) ggX5_faultOf_X5_isFigure
theorem dX5_faultOf_0 : decode cX5_faultOf 0 = .ok (.aload_n 0, 1) := by decide +kernel
theorem dX5_faultOf_1 : decode cX5_faultOf 1 = .ok (.getfield 70, 3) := by decide +kernel
theorem dX5_faultOf_4 : decode cX5_faultOf 4 = .ok (.ifCond .eq 25, 3) := by decide +kernel
theorem dX5_faultOf_7 : decode cX5_faultOf 7 = .ok (.aload_n 0, 1) := by decide +kernel
theorem dX5_faultOf_8 : decode cX5_faultOf 8 = .ok (.getfield 16, 3) := by decide +kernel
theorem dX5_faultOf_11 : decode cX5_faultOf 11 = .ok (.iconst 0, 1) := by decide +kernel
theorem dX5_faultOf_12 : decode cX5_faultOf 12 = .ok (.iaload, 1) := by decide +kernel
theorem dX5_faultOf_13 : decode cX5_faultOf 13 = .ok (.bipush 117, 2) := by decide +kernel
theorem dX5_faultOf_15 : decode cX5_faultOf 15 = .ok (.if_icmp .eq 16, 3) := by decide +kernel
theorem dX5_faultOf_18 : decode cX5_faultOf 18 = .ok (.aload_n 0, 1) := by decide +kernel
theorem dX5_faultOf_19 : decode cX5_faultOf 19 = .ok (.getfield 16, 3) := by decide +kernel
theorem dX5_faultOf_22 : decode cX5_faultOf 22 = .ok (.iconst 0, 1) := by decide +kernel
theorem dX5_faultOf_23 : decode cX5_faultOf 23 = .ok (.iaload, 1) := by decide +kernel
theorem dX5_faultOf_24 : decode cX5_faultOf 24 = .ok (.bipush 100, 2) := by decide +kernel
theorem dX5_faultOf_26 : decode cX5_faultOf 26 = .ok (.if_icmp .eq 5, 3) := by decide +kernel
theorem dX5_faultOf_29 : decode cX5_faultOf 29 = .ok (.iconst 0, 1) := by decide +kernel
theorem dX5_faultOf_30 : decode cX5_faultOf 30 = .ok (.ireturn, 1) := by decide +kernel
theorem dX5_faultOf_31 : decode cX5_faultOf 31 = .ok (.aload_n 0, 1) := by decide +kernel
theorem dX5_faultOf_32 : decode cX5_faultOf 32 = .ok (.getfield 19, 3) := by decide +kernel
theorem dX5_faultOf_35 : decode cX5_faultOf 35 = .ok (.iconst 0, 1) := by decide +kernel
theorem dX5_faultOf_36 : decode cX5_faultOf 36 = .ok (.aload_n 0, 1) := by decide +kernel
theorem dX5_faultOf_37 : decode cX5_faultOf 37 = .ok (.getfield 16, 3) := by decide +kernel
theorem dX5_faultOf_40 : decode cX5_faultOf 40 = .ok (.iconst 0, 1) := by decide +kernel
theorem dX5_faultOf_41 : decode cX5_faultOf 41 = .ok (.iaload, 1) := by decide +kernel
theorem dX5_faultOf_42 : decode cX5_faultOf 42 = .ok (.bipush 117, 2) := by decide +kernel
theorem dX5_faultOf_44 : decode cX5_faultOf 44 = .ok (.if_icmp .ne 7, 3) := by decide +kernel
theorem dX5_faultOf_47 : decode cX5_faultOf 47 = .ok (.iconst 1, 1) := by decide +kernel
theorem dX5_faultOf_48 : decode cX5_faultOf 48 = .ok (.goto 4, 3) := by decide +kernel
theorem dX5_faultOf_51 : decode cX5_faultOf 51 = .ok (.iconst 0, 1) := by decide +kernel
theorem dX5_faultOf_52 : decode cX5_faultOf 52 = .ok (.iastore, 1) := by decide +kernel
theorem dX5_faultOf_53 : decode cX5_faultOf 53 = .ok (.iconst 1, 1) := by decide +kernel
theorem dX5_faultOf_54 : decode cX5_faultOf 54 = .ok (.istore_n 1, 1) := by decide +kernel
theorem dX5_faultOf_55 : decode cX5_faultOf 55 = .ok (.iconst 1, 1) := by decide +kernel
theorem dX5_faultOf_56 : decode cX5_faultOf 56 = .ok (.istore_n 2, 1) := by decide +kernel
theorem dX5_faultOf_57 : decode cX5_faultOf 57 = .ok (.iload_n 2, 1) := by decide +kernel
theorem dX5_faultOf_58 : decode cX5_faultOf 58 = .ok (.iconst 4, 1) := by decide +kernel
theorem dX5_faultOf_59 : decode cX5_faultOf 59 = .ok (.if_icmp .ge 138, 3) := by decide +kernel
theorem dX5_faultOf_62 : decode cX5_faultOf 62 = .ok (.iload_n 1, 1) := by decide +kernel
theorem dX5_faultOf_63 : decode cX5_faultOf 63 = .ok (.aload_n 0, 1) := by decide +kernel
theorem dX5_faultOf_64 : decode cX5_faultOf 64 = .ok (.getfield 70, 3) := by decide +kernel
theorem dX5_faultOf_67 : decode cX5_faultOf 67 = .ok (.if_icmp .eq 15, 3) := by decide +kernel
theorem dX5_faultOf_70 : decode cX5_faultOf 70 = .ok (.aload_n 0, 1) := by decide +kernel
theorem dX5_faultOf_71 : decode cX5_faultOf 71 = .ok (.getfield 16, 3) := by decide +kernel
theorem dX5_faultOf_74 : decode cX5_faultOf 74 = .ok (.iload_n 1, 1) := by decide +kernel
theorem dX5_faultOf_75 : decode cX5_faultOf 75 = .ok (.iaload, 1) := by decide +kernel
theorem dX5_faultOf_76 : decode cX5_faultOf 76 = .ok (.invokestatic 74, 3) := by decide +kernel
theorem dX5_faultOf_79 : decode cX5_faultOf 79 = .ok (.ifCond .ne 5, 3) := by decide +kernel
theorem dX5_faultOf_82 : decode cX5_faultOf 82 = .ok (.iload_n 1, 1) := by decide +kernel
theorem dX5_faultOf_83 : decode cX5_faultOf 83 = .ok (.ireturn, 1) := by decide +kernel
theorem dX5_faultOf_84 : decode cX5_faultOf 84 = .ok (.aload_n 0, 1) := by decide +kernel
theorem dX5_faultOf_85 : decode cX5_faultOf 85 = .ok (.getfield 19, 3) := by decide +kernel
theorem dX5_faultOf_88 : decode cX5_faultOf 88 = .ok (.iload_n 2, 1) := by decide +kernel
theorem dX5_faultOf_89 : decode cX5_faultOf 89 = .ok (.iconst 0, 1) := by decide +kernel
theorem dX5_faultOf_90 : decode cX5_faultOf 90 = .ok (.iastore, 1) := by decide +kernel
theorem dX5_faultOf_91 : decode cX5_faultOf 91 = .ok (.iconst 0, 1) := by decide +kernel
theorem dX5_faultOf_92 : decode cX5_faultOf 92 = .ok (.istore_n 3, 1) := by decide +kernel
theorem dX5_faultOf_93 : decode cX5_faultOf 93 = .ok (.iload_n 3, 1) := by decide +kernel
theorem dX5_faultOf_94 : decode cX5_faultOf 94 = .ok (.iconst 3, 1) := by decide +kernel
theorem dX5_faultOf_95 : decode cX5_faultOf 95 = .ok (.if_icmp .ge 57, 3) := by decide +kernel
theorem dX5_faultOf_98 : decode cX5_faultOf 98 = .ok (.iload_n 1, 1) := by decide +kernel
theorem dX5_faultOf_99 : decode cX5_faultOf 99 = .ok (.aload_n 0, 1) := by decide +kernel
theorem dX5_faultOf_100 : decode cX5_faultOf 100 = .ok (.getfield 70, 3) := by decide +kernel
theorem dX5_faultOf_103 : decode cX5_faultOf 103 = .ok (.if_icmp .ge 49, 3) := by decide +kernel
theorem dX5_faultOf_106 : decode cX5_faultOf 106 = .ok (.aload_n 0, 1) := by decide +kernel
theorem dX5_faultOf_107 : decode cX5_faultOf 107 = .ok (.getfield 16, 3) := by decide +kernel
theorem dX5_faultOf_110 : decode cX5_faultOf 110 = .ok (.iload_n 1, 1) := by decide +kernel
theorem dX5_faultOf_111 : decode cX5_faultOf 111 = .ok (.iaload, 1) := by decide +kernel
theorem dX5_faultOf_112 : decode cX5_faultOf 112 = .ok (.invokestatic 74, 3) := by decide +kernel
theorem dX5_faultOf_115 : decode cX5_faultOf 115 = .ok (.ifCond .eq 37, 3) := by decide +kernel
theorem dX5_faultOf_118 : decode cX5_faultOf 118 = .ok (.aload_n 0, 1) := by decide +kernel
theorem dX5_faultOf_119 : decode cX5_faultOf 119 = .ok (.getfield 19, 3) := by decide +kernel
theorem dX5_faultOf_122 : decode cX5_faultOf 122 = .ok (.iload_n 2, 1) := by decide +kernel
theorem dX5_faultOf_123 : decode cX5_faultOf 123 = .ok (.bipush 10, 2) := by decide +kernel
theorem dX5_faultOf_125 : decode cX5_faultOf 125 = .ok (.aload_n 0, 1) := by decide +kernel
theorem dX5_faultOf_126 : decode cX5_faultOf 126 = .ok (.getfield 19, 3) := by decide +kernel
theorem dX5_faultOf_129 : decode cX5_faultOf 129 = .ok (.iload_n 2, 1) := by decide +kernel
theorem dX5_faultOf_130 : decode cX5_faultOf 130 = .ok (.iaload, 1) := by decide +kernel
theorem dX5_faultOf_131 : decode cX5_faultOf 131 = .ok (.imul, 1) := by decide +kernel
theorem dX5_faultOf_132 : decode cX5_faultOf 132 = .ok (.aload_n 0, 1) := by decide +kernel
theorem dX5_faultOf_133 : decode cX5_faultOf 133 = .ok (.getfield 16, 3) := by decide +kernel
theorem dX5_faultOf_136 : decode cX5_faultOf 136 = .ok (.iload_n 1, 1) := by decide +kernel
theorem dX5_faultOf_137 : decode cX5_faultOf 137 = .ok (.iaload, 1) := by decide +kernel
theorem dX5_faultOf_138 : decode cX5_faultOf 138 = .ok (.iadd, 1) := by decide +kernel
theorem dX5_faultOf_139 : decode cX5_faultOf 139 = .ok (.bipush 48, 2) := by decide +kernel
theorem dX5_faultOf_141 : decode cX5_faultOf 141 = .ok (.isub, 1) := by decide +kernel
theorem dX5_faultOf_142 : decode cX5_faultOf 142 = .ok (.iastore, 1) := by decide +kernel
theorem dX5_faultOf_143 : decode cX5_faultOf 143 = .ok (.iinc 1 1, 3) := by decide +kernel
theorem dX5_faultOf_146 : decode cX5_faultOf 146 = .ok (.iinc 3 1, 3) := by decide +kernel
theorem dX5_faultOf_149 : decode cX5_faultOf 149 = .ok (.goto (-56), 3) := by decide +kernel
theorem dX5_faultOf_152 : decode cX5_faultOf 152 = .ok (.iload_n 2, 1) := by decide +kernel
theorem dX5_faultOf_153 : decode cX5_faultOf 153 = .ok (.iconst 3, 1) := by decide +kernel
theorem dX5_faultOf_154 : decode cX5_faultOf 154 = .ok (.if_icmp .ge 37, 3) := by decide +kernel
theorem dX5_faultOf_157 : decode cX5_faultOf 157 = .ok (.iload_n 1, 1) := by decide +kernel
theorem dX5_faultOf_158 : decode cX5_faultOf 158 = .ok (.aload_n 0, 1) := by decide +kernel
theorem dX5_faultOf_159 : decode cX5_faultOf 159 = .ok (.getfield 70, 3) := by decide +kernel
theorem dX5_faultOf_162 : decode cX5_faultOf 162 = .ok (.if_icmp .eq 24, 3) := by decide +kernel
theorem dX5_faultOf_165 : decode cX5_faultOf 165 = .ok (.aload_n 0, 1) := by decide +kernel
theorem dX5_faultOf_166 : decode cX5_faultOf 166 = .ok (.getfield 16, 3) := by decide +kernel
theorem dX5_faultOf_169 : decode cX5_faultOf 169 = .ok (.iload_n 1, 1) := by decide +kernel
theorem dX5_faultOf_170 : decode cX5_faultOf 170 = .ok (.iaload, 1) := by decide +kernel
theorem dX5_faultOf_171 : decode cX5_faultOf 171 = .ok (.iload_n 2, 1) := by decide +kernel
theorem dX5_faultOf_172 : decode cX5_faultOf 172 = .ok (.iconst 1, 1) := by decide +kernel
theorem dX5_faultOf_173 : decode cX5_faultOf 173 = .ok (.if_icmp .ne 8, 3) := by decide +kernel
theorem dX5_faultOf_176 : decode cX5_faultOf 176 = .ok (.bipush 44, 2) := by decide +kernel
theorem dX5_faultOf_178 : decode cX5_faultOf 178 = .ok (.goto 5, 3) := by decide +kernel
theorem dX5_faultOf_181 : decode cX5_faultOf 181 = .ok (.bipush 45, 2) := by decide +kernel
theorem dX5_faultOf_183 : decode cX5_faultOf 183 = .ok (.if_icmp .eq 5, 3) := by decide +kernel
theorem dX5_faultOf_186 : decode cX5_faultOf 186 = .ok (.iload_n 1, 1) := by decide +kernel
theorem dX5_faultOf_187 : decode cX5_faultOf 187 = .ok (.ireturn, 1) := by decide +kernel
theorem dX5_faultOf_188 : decode cX5_faultOf 188 = .ok (.iinc 1 1, 3) := by decide +kernel
theorem dX5_faultOf_191 : decode cX5_faultOf 191 = .ok (.iinc 2 1, 3) := by decide +kernel
theorem dX5_faultOf_194 : decode cX5_faultOf 194 = .ok (.goto (-137), 3) := by decide +kernel
theorem dX5_faultOf_197 : decode cX5_faultOf 197 = .ok (.iload_n 1, 1) := by decide +kernel
theorem dX5_faultOf_198 : decode cX5_faultOf 198 = .ok (.aload_n 0, 1) := by decide +kernel
theorem dX5_faultOf_199 : decode cX5_faultOf 199 = .ok (.getfield 70, 3) := by decide +kernel
theorem dX5_faultOf_202 : decode cX5_faultOf 202 = .ok (.if_icmp .ge 7, 3) := by decide +kernel
theorem dX5_faultOf_205 : decode cX5_faultOf 205 = .ok (.iload_n 1, 1) := by decide +kernel
theorem dX5_faultOf_206 : decode cX5_faultOf 206 = .ok (.goto 27, 3) := by decide +kernel
theorem dX5_faultOf_209 : decode cX5_faultOf 209 = .ok (.aload_n 0, 1) := by decide +kernel
theorem dX5_faultOf_210 : decode cX5_faultOf 210 = .ok (.getfield 19, 3) := by decide +kernel
theorem dX5_faultOf_213 : decode cX5_faultOf 213 = .ok (.iconst 2, 1) := by decide +kernel
theorem dX5_faultOf_214 : decode cX5_faultOf 214 = .ok (.iaload, 1) := by decide +kernel
theorem dX5_faultOf_215 : decode cX5_faultOf 215 = .ok (.aload_n 0, 1) := by decide +kernel
theorem dX5_faultOf_216 : decode cX5_faultOf 216 = .ok (.getfield 19, 3) := by decide +kernel
theorem dX5_faultOf_219 : decode cX5_faultOf 219 = .ok (.iconst 3, 1) := by decide +kernel
theorem dX5_faultOf_220 : decode cX5_faultOf 220 = .ok (.iaload, 1) := by decide +kernel
theorem dX5_faultOf_221 : decode cX5_faultOf 221 = .ok (.if_icmp .lt 10, 3) := by decide +kernel
theorem dX5_faultOf_224 : decode cX5_faultOf 224 = .ok (.aload_n 0, 1) := by decide +kernel
theorem dX5_faultOf_225 : decode cX5_faultOf 225 = .ok (.getfield 70, 3) := by decide +kernel
theorem dX5_faultOf_228 : decode cX5_faultOf 228 = .ok (.goto 5, 3) := by decide +kernel
theorem dX5_faultOf_231 : decode cX5_faultOf 231 = .ok (.bipush (-6), 2) := by decide +kernel
theorem dX5_faultOf_233 : decode cX5_faultOf 233 = .ok (.ireturn, 1) := by decide +kernel
set_option maxRecDepth 20000 in
theorem ggX5_fault_X5_faultOf : GoodIn wsX5_fault wsX5_faultOf := goodIn_r _ [5, 6, 7, 8, 9, 10, 4, 11, 12, 13, 14, 15, 16, 17, 18, 19, 20, 21, 22, 23, 24, 25, 26, 27, 28, 29, 30, 31, 32, 33, 34, 35, 36, 37] (by decide +kernel) (by decide +kernel)
set_option maxRecDepth 20000 in
theorem gX5_fault_X5_faultOf : GoodIn wsX5_fault (wsV RX5 78 RX5 yX5_faultOf wsX5_faultOf) := goodIn_app (goodIn_of _ (by decide +kernel)) ggX5_fault_X5_faultOf
theorem dX5_fault_0 : decode cX5_fault 0 = .ok (.aload_n 0, 1) := by decide +kernel
theorem dX5_fault_1 : decode cX5_fault 1 = .ok (.invokevirtual 78, 3) := by decide +kernel
theorem dX5_fault_4 : decode cX5_fault 4 = .ok (.ireturn, 1) := by decide +kernel
set_option maxRecDepth 20000 in
theorem ggX5_edge_X5_faultOf : GoodIn wsX5_edge wsX5_faultOf := goodIn_r _ [9, 4, 10, 3, 11, 12, 8, 13, 14, 15, 16, 17, 18, 19, 20, 21, 22, 23, 24, 25, 26, 27, 28, 29, 30, 31, 32, 33, 34, 35, 36, 37, 38, 39] (by decide +kernel) (by decide +kernel)
set_option maxRecDepth 20000 in
theorem gX5_edge_X5_faultOf : GoodIn wsX5_edge (wsV RX5 78 RX5 yX5_faultOf wsX5_faultOf) := goodIn_app (goodIn_of _ (by decide +kernel)) ggX5_edge_X5_faultOf
theorem dX5_edge_0 : decode cX5_edge 0 = .ok (.aload_n 0, 1) := by decide +kernel
theorem dX5_edge_1 : decode cX5_edge 1 = .ok (.invokevirtual 78, 3) := by decide +kernel
theorem dX5_edge_4 : decode cX5_edge 4 = .ok (.ifCond .lt 6, 3) := by decide +kernel
theorem dX5_edge_7 : decode cX5_edge 7 = .ok (.bipush (-5), 2) := by decide +kernel
theorem dX5_edge_9 : decode cX5_edge 9 = .ok (.ireturn, 1) := by decide +kernel
theorem dX5_edge_10 : decode cX5_edge 10 = .ok (.aload_n 0, 1) := by decide +kernel
theorem dX5_edge_11 : decode cX5_edge 11 = .ok (.getfield 82, 3) := by decide +kernel
theorem dX5_edge_14 : decode cX5_edge 14 = .ok (.bipush 16, 2) := by decide +kernel
theorem dX5_edge_16 : decode cX5_edge 16 = .ok (.if_icmp .ne 6, 3) := by decide +kernel
theorem dX5_edge_19 : decode cX5_edge 19 = .ok (.bipush (-4), 2) := by decide +kernel
theorem dX5_edge_21 : decode cX5_edge 21 = .ok (.ireturn, 1) := by decide +kernel
theorem dX5_edge_22 : decode cX5_edge 22 = .ok (.iconst 0, 1) := by decide +kernel
theorem dX5_edge_23 : decode cX5_edge 23 = .ok (.istore_n 1, 1) := by decide +kernel
theorem dX5_edge_24 : decode cX5_edge 24 = .ok (.iload_n 1, 1) := by decide +kernel
theorem dX5_edge_25 : decode cX5_edge 25 = .ok (.iconst 4, 1) := by decide +kernel
theorem dX5_edge_26 : decode cX5_edge 26 = .ok (.if_icmp .ge 28, 3) := by decide +kernel
theorem dX5_edge_29 : decode cX5_edge 29 = .ok (.aload_n 0, 1) := by decide +kernel
theorem dX5_edge_30 : decode cX5_edge 30 = .ok (.getfield 7, 3) := by decide +kernel
theorem dX5_edge_33 : decode cX5_edge 33 = .ok (.iconst 4, 1) := by decide +kernel
theorem dX5_edge_34 : decode cX5_edge 34 = .ok (.aload_n 0, 1) := by decide +kernel
theorem dX5_edge_35 : decode cX5_edge 35 = .ok (.getfield 82, 3) := by decide +kernel
theorem dX5_edge_38 : decode cX5_edge 38 = .ok (.imul, 1) := by decide +kernel
theorem dX5_edge_39 : decode cX5_edge 39 = .ok (.iload_n 1, 1) := by decide +kernel
theorem dX5_edge_40 : decode cX5_edge 40 = .ok (.iadd, 1) := by decide +kernel
theorem dX5_edge_41 : decode cX5_edge 41 = .ok (.aload_n 0, 1) := by decide +kernel
theorem dX5_edge_42 : decode cX5_edge 42 = .ok (.getfield 19, 3) := by decide +kernel
theorem dX5_edge_45 : decode cX5_edge 45 = .ok (.iload_n 1, 1) := by decide +kernel
theorem dX5_edge_46 : decode cX5_edge 46 = .ok (.iaload, 1) := by decide +kernel
theorem dX5_edge_47 : decode cX5_edge 47 = .ok (.iastore, 1) := by decide +kernel
theorem dX5_edge_48 : decode cX5_edge 48 = .ok (.iinc 1 1, 3) := by decide +kernel
theorem dX5_edge_51 : decode cX5_edge 51 = .ok (.goto (-27), 3) := by decide +kernel
theorem dX5_edge_54 : decode cX5_edge 54 = .ok (.aload_n 0, 1) := by decide +kernel
theorem dX5_edge_55 : decode cX5_edge 55 = .ok (.dup, 1) := by decide +kernel
theorem dX5_edge_56 : decode cX5_edge 56 = .ok (.getfield 82, 3) := by decide +kernel
theorem dX5_edge_59 : decode cX5_edge 59 = .ok (.iconst 1, 1) := by decide +kernel
theorem dX5_edge_60 : decode cX5_edge 60 = .ok (.iadd, 1) := by decide +kernel
theorem dX5_edge_61 : decode cX5_edge 61 = .ok (.putfield 82, 3) := by decide +kernel
theorem dX5_edge_64 : decode cX5_edge 64 = .ok (.aload_n 0, 1) := by decide +kernel
theorem dX5_edge_65 : decode cX5_edge 65 = .ok (.iconst 0, 1) := by decide +kernel
theorem dX5_edge_66 : decode cX5_edge 66 = .ok (.putfield 70, 3) := by decide +kernel
theorem dX5_edge_69 : decode cX5_edge 69 = .ok (.aload_n 0, 1) := by decide +kernel
theorem dX5_edge_70 : decode cX5_edge 70 = .ok (.getfield 82, 3) := by decide +kernel
theorem dX5_edge_73 : decode cX5_edge 73 = .ok (.ireturn, 1) := by decide +kernel
set_option maxRecDepth 20000 in
theorem ggX5_erase_X5_in : GoodIn wsX5_erase wsX5_in := goodIn_r _ [6] (by decide +kernel) (by decide +kernel)
set_option maxRecDepth 20000 in
theorem gX5_erase_X5_in : GoodIn wsX5_erase (va_wsS RX5 66 yX5_in wsX5_in) := goodIn_app (goodIn_of _ (by decide +kernel)) ggX5_erase_X5_in
theorem dX5_erase_0 : decode cX5_erase 0 = .ok (.iload_n 1, 1) := by decide +kernel
theorem dX5_erase_1 : decode cX5_erase 1 = .ok (.iconst 0, 1) := by decide +kernel
theorem dX5_erase_2 : decode cX5_erase 2 = .ok (.aload_n 0, 1) := by decide +kernel
theorem dX5_erase_3 : decode cX5_erase 3 = .ok (.getfield 82, 3) := by decide +kernel
theorem dX5_erase_6 : decode cX5_erase 6 = .ok (.iconst 1, 1) := by decide +kernel
theorem dX5_erase_7 : decode cX5_erase 7 = .ok (.isub, 1) := by decide +kernel
theorem dX5_erase_8 : decode cX5_erase 8 = .ok (.invokestatic 66, 3) := by decide +kernel
theorem dX5_erase_11 : decode cX5_erase 11 = .ok (.ifCond .ne 5, 3) := by decide +kernel
theorem dX5_erase_14 : decode cX5_erase 14 = .ok (.iconst (-1), 1) := by decide +kernel
theorem dX5_erase_15 : decode cX5_erase 15 = .ok (.ireturn, 1) := by decide +kernel
theorem dX5_erase_16 : decode cX5_erase 16 = .ok (.aload_n 0, 1) := by decide +kernel
theorem dX5_erase_17 : decode cX5_erase 17 = .ok (.dup, 1) := by decide +kernel
theorem dX5_erase_18 : decode cX5_erase 18 = .ok (.getfield 82, 3) := by decide +kernel
theorem dX5_erase_21 : decode cX5_erase 21 = .ok (.iconst 1, 1) := by decide +kernel
theorem dX5_erase_22 : decode cX5_erase 22 = .ok (.isub, 1) := by decide +kernel
theorem dX5_erase_23 : decode cX5_erase 23 = .ok (.putfield 82, 3) := by decide +kernel
theorem dX5_erase_26 : decode cX5_erase 26 = .ok (.iconst 4, 1) := by decide +kernel
theorem dX5_erase_27 : decode cX5_erase 27 = .ok (.iload_n 1, 1) := by decide +kernel
theorem dX5_erase_28 : decode cX5_erase 28 = .ok (.imul, 1) := by decide +kernel
theorem dX5_erase_29 : decode cX5_erase 29 = .ok (.istore_n 2, 1) := by decide +kernel
theorem dX5_erase_30 : decode cX5_erase 30 = .ok (.iload_n 2, 1) := by decide +kernel
theorem dX5_erase_31 : decode cX5_erase 31 = .ok (.iconst 4, 1) := by decide +kernel
theorem dX5_erase_32 : decode cX5_erase 32 = .ok (.aload_n 0, 1) := by decide +kernel
theorem dX5_erase_33 : decode cX5_erase 33 = .ok (.getfield 82, 3) := by decide +kernel
theorem dX5_erase_36 : decode cX5_erase 36 = .ok (.imul, 1) := by decide +kernel
theorem dX5_erase_37 : decode cX5_erase 37 = .ok (.if_icmp .ge 23, 3) := by decide +kernel
theorem dX5_erase_40 : decode cX5_erase 40 = .ok (.aload_n 0, 1) := by decide +kernel
theorem dX5_erase_41 : decode cX5_erase 41 = .ok (.getfield 7, 3) := by decide +kernel
theorem dX5_erase_44 : decode cX5_erase 44 = .ok (.iload_n 2, 1) := by decide +kernel
theorem dX5_erase_45 : decode cX5_erase 45 = .ok (.aload_n 0, 1) := by decide +kernel
theorem dX5_erase_46 : decode cX5_erase 46 = .ok (.getfield 7, 3) := by decide +kernel
theorem dX5_erase_49 : decode cX5_erase 49 = .ok (.iload_n 2, 1) := by decide +kernel
theorem dX5_erase_50 : decode cX5_erase 50 = .ok (.iconst 4, 1) := by decide +kernel
theorem dX5_erase_51 : decode cX5_erase 51 = .ok (.iadd, 1) := by decide +kernel
theorem dX5_erase_52 : decode cX5_erase 52 = .ok (.iaload, 1) := by decide +kernel
theorem dX5_erase_53 : decode cX5_erase 53 = .ok (.iastore, 1) := by decide +kernel
theorem dX5_erase_54 : decode cX5_erase 54 = .ok (.iinc 2 1, 3) := by decide +kernel
theorem dX5_erase_57 : decode cX5_erase 57 = .ok (.goto (-27), 3) := by decide +kernel
theorem dX5_erase_60 : decode cX5_erase 60 = .ok (.aload_n 0, 1) := by decide +kernel
theorem dX5_erase_61 : decode cX5_erase 61 = .ok (.getfield 82, 3) := by decide +kernel
theorem dX5_erase_64 : decode cX5_erase 64 = .ok (.ireturn, 1) := by decide +kernel
set_option maxRecDepth 20000 in
theorem ggX5_rule_X5_in : GoodIn wsX5_rule wsX5_in := goodIn_r _ [5] (by decide +kernel) (by decide +kernel)
set_option maxRecDepth 20000 in
theorem gX5_rule_X5_in : GoodIn wsX5_rule (va_wsS RX5 66 yX5_in wsX5_in) := goodIn_app (goodIn_of _ (by decide +kernel)) ggX5_rule_X5_in
theorem dX5_rule_0 : decode cX5_rule 0 = .ok (.iload_n 1, 1) := by decide +kernel
theorem dX5_rule_1 : decode cX5_rule 1 = .ok (.iconst 0, 1) := by decide +kernel
theorem dX5_rule_2 : decode cX5_rule 2 = .ok (.iconst 4, 1) := by decide +kernel
theorem dX5_rule_3 : decode cX5_rule 3 = .ok (.invokestatic 66, 3) := by decide +kernel
theorem dX5_rule_6 : decode cX5_rule 6 = .ok (.ifCond .eq 31, 3) := by decide +kernel
theorem dX5_rule_9 : decode cX5_rule 9 = .ok (.iload_n 2, 1) := by decide +kernel
theorem dX5_rule_10 : decode cX5_rule 10 = .ok (.iconst 0, 1) := by decide +kernel
theorem dX5_rule_11 : decode cX5_rule 11 = .ok (.iload_n 1, 1) := by decide +kernel
theorem dX5_rule_12 : decode cX5_rule 12 = .ok (.ifCond .ne 8, 3) := by decide +kernel
theorem dX5_rule_15 : decode cX5_rule 15 = .ok (.bipush 99, 2) := by decide +kernel
theorem dX5_rule_17 : decode cX5_rule 17 = .ok (.goto 14, 3) := by decide +kernel
theorem dX5_rule_20 : decode cX5_rule 20 = .ok (.iload_n 1, 1) := by decide +kernel
theorem dX5_rule_21 : decode cX5_rule 21 = .ok (.iconst 3, 1) := by decide +kernel
theorem dX5_rule_22 : decode cX5_rule 22 = .ok (.if_icmp .ge 8, 3) := by decide +kernel
theorem dX5_rule_25 : decode cX5_rule 25 = .ok (.bipush 9, 2) := by decide +kernel
theorem dX5_rule_27 : decode cX5_rule 27 = .ok (.goto 4, 3) := by decide +kernel
theorem dX5_rule_30 : decode cX5_rule 30 = .ok (.iconst 3, 1) := by decide +kernel
theorem dX5_rule_31 : decode cX5_rule 31 = .ok (.invokestatic 66, 3) := by decide +kernel
theorem dX5_rule_34 : decode cX5_rule 34 = .ok (.ifCond .ne 6, 3) := by decide +kernel
theorem dX5_rule_37 : decode cX5_rule 37 = .ok (.bipush (-2), 2) := by decide +kernel
theorem dX5_rule_39 : decode cX5_rule 39 = .ok (.ireturn, 1) := by decide +kernel
theorem dX5_rule_40 : decode cX5_rule 40 = .ok (.aload_n 0, 1) := by decide +kernel
theorem dX5_rule_41 : decode cX5_rule 41 = .ok (.getfield 13, 3) := by decide +kernel
theorem dX5_rule_44 : decode cX5_rule 44 = .ok (.iload_n 1, 1) := by decide +kernel
theorem dX5_rule_45 : decode cX5_rule 45 = .ok (.iaload, 1) := by decide +kernel
theorem dX5_rule_46 : decode cX5_rule 46 = .ok (.istore_n 3, 1) := by decide +kernel
theorem dX5_rule_47 : decode cX5_rule 47 = .ok (.aload_n 0, 1) := by decide +kernel
theorem dX5_rule_48 : decode cX5_rule 48 = .ok (.getfield 13, 3) := by decide +kernel
theorem dX5_rule_51 : decode cX5_rule 51 = .ok (.iload_n 1, 1) := by decide +kernel
theorem dX5_rule_52 : decode cX5_rule 52 = .ok (.iload_n 2, 1) := by decide +kernel
theorem dX5_rule_53 : decode cX5_rule 53 = .ok (.iastore, 1) := by decide +kernel
theorem dX5_rule_54 : decode cX5_rule 54 = .ok (.iload_n 3, 1) := by decide +kernel
theorem dX5_rule_55 : decode cX5_rule 55 = .ok (.ireturn, 1) := by decide +kernel
theorem dX5_x_0 : decode cX5_x 0 = .ok (.aload_n 0, 1) := by decide +kernel
theorem dX5_x_1 : decode cX5_x 1 = .ok (.getfield 7, 3) := by decide +kernel
theorem dX5_x_4 : decode cX5_x 4 = .ok (.iconst 4, 1) := by decide +kernel
theorem dX5_x_5 : decode cX5_x 5 = .ok (.iload_n 1, 1) := by decide +kernel
theorem dX5_x_6 : decode cX5_x 6 = .ok (.imul, 1) := by decide +kernel
theorem dX5_x_7 : decode cX5_x 7 = .ok (.iconst 1, 1) := by decide +kernel
theorem dX5_x_8 : decode cX5_x 8 = .ok (.iadd, 1) := by decide +kernel
theorem dX5_x_9 : decode cX5_x 9 = .ok (.iaload, 1) := by decide +kernel
theorem dX5_x_10 : decode cX5_x 10 = .ok (.ireturn, 1) := by decide +kernel
set_option maxRecDepth 20000 in
theorem ggX5_canBe_X5_x : GoodIn wsX5_canBe wsX5_x := goodIn_r _ [6, 1, 7, 8, 9, 10, 11, 12, 13, 14, 15, 16, 17, 18, 19, 20, 21, 22, 23, 24, 25, 26, 27, 28, 29] (by decide +kernel) (by decide +kernel)
set_option maxRecDepth 20000 in
theorem gX5_canBe_X5_x : GoodIn wsX5_canBe (wsV RX5 85 RX5 yX5_x wsX5_x) := goodIn_app (goodIn_of _ (by decide +kernel)) ggX5_canBe_X5_x
theorem dX5_canBe_0 : decode cX5_canBe 0 = .ok (.aload_n 0, 1) := by decide +kernel
theorem dX5_canBe_1 : decode cX5_canBe 1 = .ok (.getfield 7, 3) := by decide +kernel
theorem dX5_canBe_4 : decode cX5_canBe 4 = .ok (.iconst 4, 1) := by decide +kernel
theorem dX5_canBe_5 : decode cX5_canBe 5 = .ok (.iload_n 1, 1) := by decide +kernel
theorem dX5_canBe_6 : decode cX5_canBe 6 = .ok (.imul, 1) := by decide +kernel
theorem dX5_canBe_7 : decode cX5_canBe 7 = .ok (.iaload, 1) := by decide +kernel
theorem dX5_canBe_8 : decode cX5_canBe 8 = .ok (.iconst 1, 1) := by decide +kernel
theorem dX5_canBe_9 : decode cX5_canBe 9 = .ok (.if_icmp .ne 48, 3) := by decide +kernel
theorem dX5_canBe_12 : decode cX5_canBe 12 = .ok (.aload_n 0, 1) := by decide +kernel
theorem dX5_canBe_13 : decode cX5_canBe 13 = .ok (.getfield 7, 3) := by decide +kernel
theorem dX5_canBe_16 : decode cX5_canBe 16 = .ok (.iconst 4, 1) := by decide +kernel
theorem dX5_canBe_17 : decode cX5_canBe 17 = .ok (.iload_n 2, 1) := by decide +kernel
theorem dX5_canBe_18 : decode cX5_canBe 18 = .ok (.imul, 1) := by decide +kernel
theorem dX5_canBe_19 : decode cX5_canBe 19 = .ok (.iaload, 1) := by decide +kernel
theorem dX5_canBe_20 : decode cX5_canBe 20 = .ok (.ifCond .ne 37, 3) := by decide +kernel
theorem dX5_canBe_23 : decode cX5_canBe 23 = .ok (.aload_n 0, 1) := by decide +kernel
theorem dX5_canBe_24 : decode cX5_canBe 24 = .ok (.iload_n 1, 1) := by decide +kernel
theorem dX5_canBe_25 : decode cX5_canBe 25 = .ok (.invokevirtual 85, 3) := by decide +kernel
theorem dX5_canBe_28 : decode cX5_canBe 28 = .ok (.aload_n 0, 1) := by decide +kernel
theorem dX5_canBe_29 : decode cX5_canBe 29 = .ok (.iload_n 2, 1) := by decide +kernel
theorem dX5_canBe_30 : decode cX5_canBe 30 = .ok (.invokevirtual 85, 3) := by decide +kernel
theorem dX5_canBe_33 : decode cX5_canBe 33 = .ok (.if_icmp .ge 24, 3) := by decide +kernel
theorem dX5_canBe_36 : decode cX5_canBe 36 = .ok (.aload_n 0, 1) := by decide +kernel
theorem dX5_canBe_37 : decode cX5_canBe 37 = .ok (.iload_n 2, 1) := by decide +kernel
theorem dX5_canBe_38 : decode cX5_canBe 38 = .ok (.invokevirtual 85, 3) := by decide +kernel
theorem dX5_canBe_41 : decode cX5_canBe 41 = .ok (.aload_n 0, 1) := by decide +kernel
theorem dX5_canBe_42 : decode cX5_canBe 42 = .ok (.iload_n 1, 1) := by decide +kernel
theorem dX5_canBe_43 : decode cX5_canBe 43 = .ok (.invokevirtual 85, 3) := by decide +kernel
theorem dX5_canBe_46 : decode cX5_canBe 46 = .ok (.isub, 1) := by decide +kernel
theorem dX5_canBe_47 : decode cX5_canBe 47 = .ok (.sipush 300, 3) := by decide +kernel
theorem dX5_canBe_50 : decode cX5_canBe 50 = .ok (.if_icmp .gt 7, 3) := by decide +kernel
theorem dX5_canBe_53 : decode cX5_canBe 53 = .ok (.iconst 1, 1) := by decide +kernel
theorem dX5_canBe_54 : decode cX5_canBe 54 = .ok (.goto 4, 3) := by decide +kernel
theorem dX5_canBe_57 : decode cX5_canBe 57 = .ok (.iconst 0, 1) := by decide +kernel
theorem dX5_canBe_58 : decode cX5_canBe 58 = .ok (.istore_n 3, 1) := by decide +kernel
theorem dX5_canBe_59 : decode cX5_canBe 59 = .ok (.aload_n 0, 1) := by decide +kernel
theorem dX5_canBe_60 : decode cX5_canBe 60 = .ok (.getfield 7, 3) := by decide +kernel
theorem dX5_canBe_63 : decode cX5_canBe 63 = .ok (.iconst 4, 1) := by decide +kernel
theorem dX5_canBe_64 : decode cX5_canBe 64 = .ok (.iload_n 1, 1) := by decide +kernel
theorem dX5_canBe_65 : decode cX5_canBe 65 = .ok (.imul, 1) := by decide +kernel
theorem dX5_canBe_66 : decode cX5_canBe 66 = .ok (.iconst 2, 1) := by decide +kernel
theorem dX5_canBe_67 : decode cX5_canBe 67 = .ok (.iadd, 1) := by decide +kernel
theorem dX5_canBe_68 : decode cX5_canBe 68 = .ok (.iaload, 1) := by decide +kernel
theorem dX5_canBe_69 : decode cX5_canBe 69 = .ok (.aload_n 0, 1) := by decide +kernel
theorem dX5_canBe_70 : decode cX5_canBe 70 = .ok (.getfield 7, 3) := by decide +kernel
theorem dX5_canBe_73 : decode cX5_canBe 73 = .ok (.iconst 4, 1) := by decide +kernel
theorem dX5_canBe_74 : decode cX5_canBe 74 = .ok (.iload_n 2, 1) := by decide +kernel
theorem dX5_canBe_75 : decode cX5_canBe 75 = .ok (.imul, 1) := by decide +kernel
theorem dX5_canBe_76 : decode cX5_canBe 76 = .ok (.iconst 2, 1) := by decide +kernel
theorem dX5_canBe_77 : decode cX5_canBe 77 = .ok (.iadd, 1) := by decide +kernel
theorem dX5_canBe_78 : decode cX5_canBe 78 = .ok (.iaload, 1) := by decide +kernel
theorem dX5_canBe_79 : decode cX5_canBe 79 = .ok (.if_icmp .le 16, 3) := by decide +kernel
theorem dX5_canBe_82 : decode cX5_canBe 82 = .ok (.aload_n 0, 1) := by decide +kernel
theorem dX5_canBe_83 : decode cX5_canBe 83 = .ok (.getfield 7, 3) := by decide +kernel
theorem dX5_canBe_86 : decode cX5_canBe 86 = .ok (.iconst 4, 1) := by decide +kernel
theorem dX5_canBe_87 : decode cX5_canBe 87 = .ok (.iload_n 1, 1) := by decide +kernel
theorem dX5_canBe_88 : decode cX5_canBe 88 = .ok (.imul, 1) := by decide +kernel
theorem dX5_canBe_89 : decode cX5_canBe 89 = .ok (.iconst 2, 1) := by decide +kernel
theorem dX5_canBe_90 : decode cX5_canBe 90 = .ok (.iadd, 1) := by decide +kernel
theorem dX5_canBe_91 : decode cX5_canBe 91 = .ok (.iaload, 1) := by decide +kernel
theorem dX5_canBe_92 : decode cX5_canBe 92 = .ok (.goto 13, 3) := by decide +kernel
theorem dX5_canBe_95 : decode cX5_canBe 95 = .ok (.aload_n 0, 1) := by decide +kernel
theorem dX5_canBe_96 : decode cX5_canBe 96 = .ok (.getfield 7, 3) := by decide +kernel
theorem dX5_canBe_99 : decode cX5_canBe 99 = .ok (.iconst 4, 1) := by decide +kernel
theorem dX5_canBe_100 : decode cX5_canBe 100 = .ok (.iload_n 2, 1) := by decide +kernel
theorem dX5_canBe_101 : decode cX5_canBe 101 = .ok (.imul, 1) := by decide +kernel
theorem dX5_canBe_102 : decode cX5_canBe 102 = .ok (.iconst 2, 1) := by decide +kernel
theorem dX5_canBe_103 : decode cX5_canBe 103 = .ok (.iadd, 1) := by decide +kernel
theorem dX5_canBe_104 : decode cX5_canBe 104 = .ok (.iaload, 1) := by decide +kernel
theorem dX5_canBe_105 : decode cX5_canBe 105 = .ok (.istore 4, 2) := by decide +kernel
theorem dX5_canBe_107 : decode cX5_canBe 107 = .ok (.aload_n 0, 1) := by decide +kernel
theorem dX5_canBe_108 : decode cX5_canBe 108 = .ok (.getfield 7, 3) := by decide +kernel
theorem dX5_canBe_111 : decode cX5_canBe 111 = .ok (.iconst 4, 1) := by decide +kernel
theorem dX5_canBe_112 : decode cX5_canBe 112 = .ok (.iload_n 1, 1) := by decide +kernel
theorem dX5_canBe_113 : decode cX5_canBe 113 = .ok (.imul, 1) := by decide +kernel
theorem dX5_canBe_114 : decode cX5_canBe 114 = .ok (.iconst 3, 1) := by decide +kernel
theorem dX5_canBe_115 : decode cX5_canBe 115 = .ok (.iadd, 1) := by decide +kernel
theorem dX5_canBe_116 : decode cX5_canBe 116 = .ok (.iaload, 1) := by decide +kernel
theorem dX5_canBe_117 : decode cX5_canBe 117 = .ok (.aload_n 0, 1) := by decide +kernel
theorem dX5_canBe_118 : decode cX5_canBe 118 = .ok (.getfield 7, 3) := by decide +kernel
theorem dX5_canBe_121 : decode cX5_canBe 121 = .ok (.iconst 4, 1) := by decide +kernel
theorem dX5_canBe_122 : decode cX5_canBe 122 = .ok (.iload_n 2, 1) := by decide +kernel
theorem dX5_canBe_123 : decode cX5_canBe 123 = .ok (.imul, 1) := by decide +kernel
theorem dX5_canBe_124 : decode cX5_canBe 124 = .ok (.iconst 3, 1) := by decide +kernel
theorem dX5_canBe_125 : decode cX5_canBe 125 = .ok (.iadd, 1) := by decide +kernel
theorem dX5_canBe_126 : decode cX5_canBe 126 = .ok (.iaload, 1) := by decide +kernel
theorem dX5_canBe_127 : decode cX5_canBe 127 = .ok (.if_icmp .ge 16, 3) := by decide +kernel
theorem dX5_canBe_130 : decode cX5_canBe 130 = .ok (.aload_n 0, 1) := by decide +kernel
theorem dX5_canBe_131 : decode cX5_canBe 131 = .ok (.getfield 7, 3) := by decide +kernel
theorem dX5_canBe_134 : decode cX5_canBe 134 = .ok (.iconst 4, 1) := by decide +kernel
theorem dX5_canBe_135 : decode cX5_canBe 135 = .ok (.iload_n 1, 1) := by decide +kernel
theorem dX5_canBe_136 : decode cX5_canBe 136 = .ok (.imul, 1) := by decide +kernel
theorem dX5_canBe_137 : decode cX5_canBe 137 = .ok (.iconst 3, 1) := by decide +kernel
theorem dX5_canBe_138 : decode cX5_canBe 138 = .ok (.iadd, 1) := by decide +kernel
theorem dX5_canBe_139 : decode cX5_canBe 139 = .ok (.iaload, 1) := by decide +kernel
theorem dX5_canBe_140 : decode cX5_canBe 140 = .ok (.goto 13, 3) := by decide +kernel
theorem dX5_canBe_143 : decode cX5_canBe 143 = .ok (.aload_n 0, 1) := by decide +kernel
theorem dX5_canBe_144 : decode cX5_canBe 144 = .ok (.getfield 7, 3) := by decide +kernel
theorem dX5_canBe_147 : decode cX5_canBe 147 = .ok (.iconst 4, 1) := by decide +kernel
theorem dX5_canBe_148 : decode cX5_canBe 148 = .ok (.iload_n 2, 1) := by decide +kernel
theorem dX5_canBe_149 : decode cX5_canBe 149 = .ok (.imul, 1) := by decide +kernel
theorem dX5_canBe_150 : decode cX5_canBe 150 = .ok (.iconst 3, 1) := by decide +kernel
theorem dX5_canBe_151 : decode cX5_canBe 151 = .ok (.iadd, 1) := by decide +kernel
theorem dX5_canBe_152 : decode cX5_canBe 152 = .ok (.iaload, 1) := by decide +kernel
theorem dX5_canBe_153 : decode cX5_canBe 153 = .ok (.istore 5, 2) := by decide +kernel
theorem dX5_canBe_155 : decode cX5_canBe 155 = .ok (.iload_n 3, 1) := by decide +kernel
theorem dX5_canBe_156 : decode cX5_canBe 156 = .ok (.ifCond .eq 14, 3) := by decide +kernel
theorem dX5_canBe_159 : decode cX5_canBe 159 = .ok (.iload 5, 2) := by decide +kernel
theorem dX5_canBe_161 : decode cX5_canBe 161 = .ok (.iload 4, 2) := by decide +kernel
theorem dX5_canBe_163 : decode cX5_canBe 163 = .ok (.if_icmp .le 7, 3) := by decide +kernel
theorem dX5_canBe_166 : decode cX5_canBe 166 = .ok (.iconst 1, 1) := by decide +kernel
theorem dX5_canBe_167 : decode cX5_canBe 167 = .ok (.goto 4, 3) := by decide +kernel
theorem dX5_canBe_170 : decode cX5_canBe 170 = .ok (.iconst 0, 1) := by decide +kernel
theorem dX5_canBe_171 : decode cX5_canBe 171 = .ok (.ireturn, 1) := by decide +kernel
set_option maxRecDepth 20000 in
theorem ggX5_isFree_X5_x : GoodIn wsX5_isFree wsX5_x := goodIn_r _ [10, 11, 12, 13, 14, 15, 16, 17, 18, 19, 20, 21, 22, 23, 24, 25, 26, 27, 28, 29, 30, 31, 32, 33, 34] (by decide +kernel) (by decide +kernel)
set_option maxRecDepth 20000 in
theorem gX5_isFree_X5_x : GoodIn wsX5_isFree (wsV RX5 85 RX5 yX5_x wsX5_x) := goodIn_app (goodIn_of _ (by decide +kernel)) ggX5_isFree_X5_x
theorem dX5_isFree_0 : decode cX5_isFree 0 = .ok (.iconst 1, 1) := by decide +kernel
theorem dX5_isFree_1 : decode cX5_isFree 1 = .ok (.istore_n 3, 1) := by decide +kernel
theorem dX5_isFree_2 : decode cX5_isFree 2 = .ok (.iconst 0, 1) := by decide +kernel
theorem dX5_isFree_3 : decode cX5_isFree 3 = .ok (.istore 4, 2) := by decide +kernel
theorem dX5_isFree_5 : decode cX5_isFree 5 = .ok (.iload 4, 2) := by decide +kernel
theorem dX5_isFree_7 : decode cX5_isFree 7 = .ok (.aload_n 0, 1) := by decide +kernel
theorem dX5_isFree_8 : decode cX5_isFree 8 = .ok (.getfield 89, 3) := by decide +kernel
theorem dX5_isFree_11 : decode cX5_isFree 11 = .ok (.if_icmp .ge 71, 3) := by decide +kernel
theorem dX5_isFree_14 : decode cX5_isFree 14 = .ok (.iload_n 3, 1) := by decide +kernel
theorem dX5_isFree_15 : decode cX5_isFree 15 = .ok (.ifCond .eq 59, 3) := by decide +kernel
theorem dX5_isFree_18 : decode cX5_isFree 18 = .ok (.aload_n 0, 1) := by decide +kernel
theorem dX5_isFree_19 : decode cX5_isFree 19 = .ok (.getfield 28, 3) := by decide +kernel
theorem dX5_isFree_22 : decode cX5_isFree 22 = .ok (.iload 4, 2) := by decide +kernel
theorem dX5_isFree_24 : decode cX5_isFree 24 = .ok (.iaload, 1) := by decide +kernel
theorem dX5_isFree_25 : decode cX5_isFree 25 = .ok (.iload_n 1, 1) := by decide +kernel
theorem dX5_isFree_26 : decode cX5_isFree 26 = .ok (.if_icmp .eq 48, 3) := by decide +kernel
theorem dX5_isFree_29 : decode cX5_isFree 29 = .ok (.aload_n 0, 1) := by decide +kernel
theorem dX5_isFree_30 : decode cX5_isFree 30 = .ok (.getfield 31, 3) := by decide +kernel
theorem dX5_isFree_33 : decode cX5_isFree 33 = .ok (.iload 4, 2) := by decide +kernel
theorem dX5_isFree_35 : decode cX5_isFree 35 = .ok (.iaload, 1) := by decide +kernel
theorem dX5_isFree_36 : decode cX5_isFree 36 = .ok (.iload_n 2, 1) := by decide +kernel
theorem dX5_isFree_37 : decode cX5_isFree 37 = .ok (.if_icmp .eq 37, 3) := by decide +kernel
theorem dX5_isFree_40 : decode cX5_isFree 40 = .ok (.aload_n 0, 1) := by decide +kernel
theorem dX5_isFree_41 : decode cX5_isFree 41 = .ok (.iload_n 2, 1) := by decide +kernel
theorem dX5_isFree_42 : decode cX5_isFree 42 = .ok (.invokevirtual 85, 3) := by decide +kernel
theorem dX5_isFree_45 : decode cX5_isFree 45 = .ok (.aload_n 0, 1) := by decide +kernel
theorem dX5_isFree_46 : decode cX5_isFree 46 = .ok (.getfield 22, 3) := by decide +kernel
theorem dX5_isFree_49 : decode cX5_isFree 49 = .ok (.iload 4, 2) := by decide +kernel
theorem dX5_isFree_51 : decode cX5_isFree 51 = .ok (.iaload, 1) := by decide +kernel
theorem dX5_isFree_52 : decode cX5_isFree 52 = .ok (.if_icmp .lt 18, 3) := by decide +kernel
theorem dX5_isFree_55 : decode cX5_isFree 55 = .ok (.aload_n 0, 1) := by decide +kernel
theorem dX5_isFree_56 : decode cX5_isFree 56 = .ok (.getfield 25, 3) := by decide +kernel
theorem dX5_isFree_59 : decode cX5_isFree 59 = .ok (.iload 4, 2) := by decide +kernel
theorem dX5_isFree_61 : decode cX5_isFree 61 = .ok (.iaload, 1) := by decide +kernel
theorem dX5_isFree_62 : decode cX5_isFree 62 = .ok (.aload_n 0, 1) := by decide +kernel
theorem dX5_isFree_63 : decode cX5_isFree 63 = .ok (.iload_n 1, 1) := by decide +kernel
theorem dX5_isFree_64 : decode cX5_isFree 64 = .ok (.invokevirtual 85, 3) := by decide +kernel
theorem dX5_isFree_67 : decode cX5_isFree 67 = .ok (.if_icmp .ge 7, 3) := by decide +kernel
theorem dX5_isFree_70 : decode cX5_isFree 70 = .ok (.iconst 1, 1) := by decide +kernel
theorem dX5_isFree_71 : decode cX5_isFree 71 = .ok (.goto 4, 3) := by decide +kernel
theorem dX5_isFree_74 : decode cX5_isFree 74 = .ok (.iconst 0, 1) := by decide +kernel
theorem dX5_isFree_75 : decode cX5_isFree 75 = .ok (.istore_n 3, 1) := by decide +kernel
theorem dX5_isFree_76 : decode cX5_isFree 76 = .ok (.iinc 4 1, 3) := by decide +kernel
theorem dX5_isFree_79 : decode cX5_isFree 79 = .ok (.goto (-74), 3) := by decide +kernel
theorem dX5_isFree_82 : decode cX5_isFree 82 = .ok (.iload_n 3, 1) := by decide +kernel
theorem dX5_isFree_83 : decode cX5_isFree 83 = .ok (.ireturn, 1) := by decide +kernel
set_option maxRecDepth 20000 in
theorem ggX5_layStems_X5_canBe : GoodIn wsX5_layStems wsX5_canBe := goodIn_r _ [12, 13, 14, 15, 16, 11, 17, 36, 37, 38, 39, 40, 41, 42, 43, 44, 45, 46, 47, 48, 49, 50, 51, 52, 53, 54, 55, 56, 57, 58] (by decide +kernel) (by decide +kernel)
set_option maxRecDepth 20000 in
theorem gX5_layStems_X5_canBe : GoodIn wsX5_layStems (wsV RX5 92 RX5 yX5_canBe wsX5_canBe) := goodIn_app (goodIn_of _ (by decide +kernel)) ggX5_layStems_X5_canBe
set_option maxRecDepth 20000 in
theorem ggX5_layStems_X5_isFree : GoodIn wsX5_layStems wsX5_isFree := goodIn_r _ [21, 1, 5, 6, 3, 4, 14, 15, 16, 11, 17, 13, 36, 37, 38, 39, 40, 41, 42, 43, 44, 45, 46, 47, 48, 49, 50, 51, 52, 53, 54, 55, 56, 57, 58] (by decide +kernel) (by decide +kernel)
set_option maxRecDepth 20000 in
theorem gX5_layStems_X5_isFree : GoodIn wsX5_layStems (wsV RX5 96 RX5 yX5_isFree wsX5_isFree) := goodIn_app (goodIn_of _ (by decide +kernel)) ggX5_layStems_X5_isFree
set_option maxRecDepth 20000 in
theorem ggX5_layStems_X5_x : GoodIn wsX5_layStems wsX5_x := goodIn_r _ [17, 13, 36, 37, 38, 39, 40, 41, 42, 43, 44, 45, 46, 47, 48, 49, 50, 51, 52, 53, 54, 55, 56, 57, 58] (by decide +kernel) (by decide +kernel)
set_option maxRecDepth 20000 in
theorem gX5_layStems_X5_x : GoodIn wsX5_layStems (wsV RX5 85 RX5 yX5_x wsX5_x) := goodIn_app (goodIn_of _ (by decide +kernel)) ggX5_layStems_X5_x
set_option maxRecDepth 20000 in
theorem ggX5_layStems_X5_layKinds : GoodIn wsX5_layStems wsX5_layKinds := goodIn_r _ [25, 26, 1, 27, 28, 29, 30, 31, 32, 33, 34, 11, 35, 4, 3, 36, 37, 38, 39, 40, 41, 42, 43, 44, 45, 46, 47, 48, 49, 50, 51, 52, 53, 54, 55, 56, 57, 58] (by decide +kernel) (by decide +kernel)
set_option maxRecDepth 20000 in
theorem gX5_layStems_X5_layKinds : GoodIn wsX5_layStems (wsV RX5 99 RX5 yX5_layKinds wsX5_layKinds) := goodIn_app (goodIn_of _ (by decide +kernel)) ggX5_layStems_X5_layKinds
theorem dX5_layStems_0 : decode cX5_layStems 0 = .ok (.aload_n 0, 1) := by decide +kernel
theorem dX5_layStems_1 : decode cX5_layStems 1 = .ok (.iconst 0, 1) := by decide +kernel
theorem dX5_layStems_2 : decode cX5_layStems 2 = .ok (.putfield 89, 3) := by decide +kernel
theorem dX5_layStems_5 : decode cX5_layStems 5 = .ok (.iconst 1, 1) := by decide +kernel
theorem dX5_layStems_6 : decode cX5_layStems 6 = .ok (.istore_n 1, 1) := by decide +kernel
theorem dX5_layStems_7 : decode cX5_layStems 7 = .ok (.iload_n 1, 1) := by decide +kernel
theorem dX5_layStems_8 : decode cX5_layStems 8 = .ok (.ifCond .eq 328, 3) := by decide +kernel
theorem dX5_layStems_11 : decode cX5_layStems 11 = .ok (.bipush (-6), 2) := by decide +kernel
theorem dX5_layStems_13 : decode cX5_layStems 13 = .ok (.istore_n 2, 1) := by decide +kernel
theorem dX5_layStems_14 : decode cX5_layStems 14 = .ok (.bipush (-6), 2) := by decide +kernel
theorem dX5_layStems_16 : decode cX5_layStems 16 = .ok (.istore_n 3, 1) := by decide +kernel
theorem dX5_layStems_17 : decode cX5_layStems 17 = .ok (.iconst 0, 1) := by decide +kernel
theorem dX5_layStems_18 : decode cX5_layStems 18 = .ok (.istore 4, 2) := by decide +kernel
theorem dX5_layStems_20 : decode cX5_layStems 20 = .ok (.iload 4, 2) := by decide +kernel
theorem dX5_layStems_22 : decode cX5_layStems 22 = .ok (.aload_n 0, 1) := by decide +kernel
theorem dX5_layStems_23 : decode cX5_layStems 23 = .ok (.getfield 82, 3) := by decide +kernel
theorem dX5_layStems_26 : decode cX5_layStems 26 = .ok (.if_icmp .ge 145, 3) := by decide +kernel
theorem dX5_layStems_29 : decode cX5_layStems 29 = .ok (.iconst 0, 1) := by decide +kernel
theorem dX5_layStems_30 : decode cX5_layStems 30 = .ok (.istore 5, 2) := by decide +kernel
theorem dX5_layStems_32 : decode cX5_layStems 32 = .ok (.iload 5, 2) := by decide +kernel
theorem dX5_layStems_34 : decode cX5_layStems 34 = .ok (.aload_n 0, 1) := by decide +kernel
theorem dX5_layStems_35 : decode cX5_layStems 35 = .ok (.getfield 82, 3) := by decide +kernel
theorem dX5_layStems_38 : decode cX5_layStems 38 = .ok (.if_icmp .ge 127, 3) := by decide +kernel
theorem dX5_layStems_41 : decode cX5_layStems 41 = .ok (.aload_n 0, 1) := by decide +kernel
theorem dX5_layStems_42 : decode cX5_layStems 42 = .ok (.iload 4, 2) := by decide +kernel
theorem dX5_layStems_44 : decode cX5_layStems 44 = .ok (.iload 5, 2) := by decide +kernel
theorem dX5_layStems_46 : decode cX5_layStems 46 = .ok (.invokevirtual 92, 3) := by decide +kernel
theorem dX5_layStems_49 : decode cX5_layStems 49 = .ok (.ifCond .eq 110, 3) := by decide +kernel
theorem dX5_layStems_52 : decode cX5_layStems 52 = .ok (.aload_n 0, 1) := by decide +kernel
theorem dX5_layStems_53 : decode cX5_layStems 53 = .ok (.iload 4, 2) := by decide +kernel
theorem dX5_layStems_55 : decode cX5_layStems 55 = .ok (.iload 5, 2) := by decide +kernel
theorem dX5_layStems_57 : decode cX5_layStems 57 = .ok (.invokevirtual 96, 3) := by decide +kernel
theorem dX5_layStems_60 : decode cX5_layStems 60 = .ok (.ifCond .eq 99, 3) := by decide +kernel
theorem dX5_layStems_63 : decode cX5_layStems 63 = .ok (.aload_n 0, 1) := by decide +kernel
theorem dX5_layStems_64 : decode cX5_layStems 64 = .ok (.iload 5, 2) := by decide +kernel
theorem dX5_layStems_66 : decode cX5_layStems 66 = .ok (.invokevirtual 85, 3) := by decide +kernel
theorem dX5_layStems_69 : decode cX5_layStems 69 = .ok (.aload_n 0, 1) := by decide +kernel
theorem dX5_layStems_70 : decode cX5_layStems 70 = .ok (.iload 4, 2) := by decide +kernel
theorem dX5_layStems_72 : decode cX5_layStems 72 = .ok (.invokevirtual 85, 3) := by decide +kernel
theorem dX5_layStems_75 : decode cX5_layStems 75 = .ok (.isub, 1) := by decide +kernel
theorem dX5_layStems_76 : decode cX5_layStems 76 = .ok (.istore 6, 2) := by decide +kernel
theorem dX5_layStems_78 : decode cX5_layStems 78 = .ok (.iload_n 2, 1) := by decide +kernel
theorem dX5_layStems_79 : decode cX5_layStems 79 = .ok (.ifCond .lt 49, 3) := by decide +kernel
theorem dX5_layStems_82 : decode cX5_layStems 82 = .ok (.iload 6, 2) := by decide +kernel
theorem dX5_layStems_84 : decode cX5_layStems 84 = .ok (.aload_n 0, 1) := by decide +kernel
theorem dX5_layStems_85 : decode cX5_layStems 85 = .ok (.iload_n 3, 1) := by decide +kernel
theorem dX5_layStems_86 : decode cX5_layStems 86 = .ok (.invokevirtual 85, 3) := by decide +kernel
theorem dX5_layStems_89 : decode cX5_layStems 89 = .ok (.aload_n 0, 1) := by decide +kernel
theorem dX5_layStems_90 : decode cX5_layStems 90 = .ok (.iload_n 2, 1) := by decide +kernel
theorem dX5_layStems_91 : decode cX5_layStems 91 = .ok (.invokevirtual 85, 3) := by decide +kernel
theorem dX5_layStems_94 : decode cX5_layStems 94 = .ok (.isub, 1) := by decide +kernel
theorem dX5_layStems_95 : decode cX5_layStems 95 = .ok (.if_icmp .lt 33, 3) := by decide +kernel
theorem dX5_layStems_98 : decode cX5_layStems 98 = .ok (.iload 6, 2) := by decide +kernel
theorem dX5_layStems_100 : decode cX5_layStems 100 = .ok (.aload_n 0, 1) := by decide +kernel
theorem dX5_layStems_101 : decode cX5_layStems 101 = .ok (.iload_n 3, 1) := by decide +kernel
theorem dX5_layStems_102 : decode cX5_layStems 102 = .ok (.invokevirtual 85, 3) := by decide +kernel
theorem dX5_layStems_105 : decode cX5_layStems 105 = .ok (.aload_n 0, 1) := by decide +kernel
theorem dX5_layStems_106 : decode cX5_layStems 106 = .ok (.iload_n 2, 1) := by decide +kernel
theorem dX5_layStems_107 : decode cX5_layStems 107 = .ok (.invokevirtual 85, 3) := by decide +kernel
theorem dX5_layStems_110 : decode cX5_layStems 110 = .ok (.isub, 1) := by decide +kernel
theorem dX5_layStems_111 : decode cX5_layStems 111 = .ok (.if_icmp .ne 21, 3) := by decide +kernel
theorem dX5_layStems_114 : decode cX5_layStems 114 = .ok (.aload_n 0, 1) := by decide +kernel
theorem dX5_layStems_115 : decode cX5_layStems 115 = .ok (.iload 4, 2) := by decide +kernel
theorem dX5_layStems_117 : decode cX5_layStems 117 = .ok (.invokevirtual 85, 3) := by decide +kernel
theorem dX5_layStems_120 : decode cX5_layStems 120 = .ok (.aload_n 0, 1) := by decide +kernel
theorem dX5_layStems_121 : decode cX5_layStems 121 = .ok (.iload_n 2, 1) := by decide +kernel
theorem dX5_layStems_122 : decode cX5_layStems 122 = .ok (.invokevirtual 85, 3) := by decide +kernel
theorem dX5_layStems_125 : decode cX5_layStems 125 = .ok (.if_icmp .ge 7, 3) := by decide +kernel
theorem dX5_layStems_128 : decode cX5_layStems 128 = .ok (.iconst 1, 1) := by decide +kernel
theorem dX5_layStems_129 : decode cX5_layStems 129 = .ok (.goto 4, 3) := by decide +kernel
theorem dX5_layStems_132 : decode cX5_layStems 132 = .ok (.iconst 0, 1) := by decide +kernel
theorem dX5_layStems_133 : decode cX5_layStems 133 = .ok (.istore 7, 2) := by decide +kernel
theorem dX5_layStems_135 : decode cX5_layStems 135 = .ok (.iload 7, 2) := by decide +kernel
theorem dX5_layStems_137 : decode cX5_layStems 137 = .ok (.ifCond .eq 8, 3) := by decide +kernel
theorem dX5_layStems_140 : decode cX5_layStems 140 = .ok (.iload 4, 2) := by decide +kernel
theorem dX5_layStems_142 : decode cX5_layStems 142 = .ok (.goto 4, 3) := by decide +kernel
theorem dX5_layStems_145 : decode cX5_layStems 145 = .ok (.iload_n 2, 1) := by decide +kernel
theorem dX5_layStems_146 : decode cX5_layStems 146 = .ok (.istore_n 2, 1) := by decide +kernel
theorem dX5_layStems_147 : decode cX5_layStems 147 = .ok (.iload 7, 2) := by decide +kernel
theorem dX5_layStems_149 : decode cX5_layStems 149 = .ok (.ifCond .eq 8, 3) := by decide +kernel
theorem dX5_layStems_152 : decode cX5_layStems 152 = .ok (.iload 5, 2) := by decide +kernel
theorem dX5_layStems_154 : decode cX5_layStems 154 = .ok (.goto 4, 3) := by decide +kernel
theorem dX5_layStems_157 : decode cX5_layStems 157 = .ok (.iload_n 3, 1) := by decide +kernel
theorem dX5_layStems_158 : decode cX5_layStems 158 = .ok (.istore_n 3, 1) := by decide +kernel
theorem dX5_layStems_159 : decode cX5_layStems 159 = .ok (.iinc 5 1, 3) := by decide +kernel
theorem dX5_layStems_162 : decode cX5_layStems 162 = .ok (.goto (-130), 3) := by decide +kernel
theorem dX5_layStems_165 : decode cX5_layStems 165 = .ok (.iinc 4 1, 3) := by decide +kernel
theorem dX5_layStems_168 : decode cX5_layStems 168 = .ok (.goto (-148), 3) := by decide +kernel
theorem dX5_layStems_171 : decode cX5_layStems 171 = .ok (.iload_n 2, 1) := by decide +kernel
theorem dX5_layStems_172 : decode cX5_layStems 172 = .ok (.ifCond .lt 7, 3) := by decide +kernel
theorem dX5_layStems_175 : decode cX5_layStems 175 = .ok (.iconst 1, 1) := by decide +kernel
theorem dX5_layStems_176 : decode cX5_layStems 176 = .ok (.goto 4, 3) := by decide +kernel
theorem dX5_layStems_179 : decode cX5_layStems 179 = .ok (.iconst 0, 1) := by decide +kernel
theorem dX5_layStems_180 : decode cX5_layStems 180 = .ok (.istore_n 1, 1) := by decide +kernel
theorem dX5_layStems_181 : decode cX5_layStems 181 = .ok (.iload_n 1, 1) := by decide +kernel
theorem dX5_layStems_182 : decode cX5_layStems 182 = .ok (.ifCond .eq 151, 3) := by decide +kernel
theorem dX5_layStems_185 : decode cX5_layStems 185 = .ok (.aload_n 0, 1) := by decide +kernel
theorem dX5_layStems_186 : decode cX5_layStems 186 = .ok (.getfield 89, 3) := by decide +kernel
theorem dX5_layStems_189 : decode cX5_layStems 189 = .ok (.istore 4, 2) := by decide +kernel
theorem dX5_layStems_191 : decode cX5_layStems 191 = .ok (.iload 4, 2) := by decide +kernel
theorem dX5_layStems_193 : decode cX5_layStems 193 = .ok (.ifCond .le 90, 3) := by decide +kernel
theorem dX5_layStems_196 : decode cX5_layStems 196 = .ok (.aload_n 0, 1) := by decide +kernel
theorem dX5_layStems_197 : decode cX5_layStems 197 = .ok (.getfield 22, 3) := by decide +kernel
theorem dX5_layStems_200 : decode cX5_layStems 200 = .ok (.iload 4, 2) := by decide +kernel
theorem dX5_layStems_202 : decode cX5_layStems 202 = .ok (.iconst 1, 1) := by decide +kernel
theorem dX5_layStems_203 : decode cX5_layStems 203 = .ok (.isub, 1) := by decide +kernel
theorem dX5_layStems_204 : decode cX5_layStems 204 = .ok (.iaload, 1) := by decide +kernel
theorem dX5_layStems_205 : decode cX5_layStems 205 = .ok (.aload_n 0, 1) := by decide +kernel
theorem dX5_layStems_206 : decode cX5_layStems 206 = .ok (.iload_n 2, 1) := by decide +kernel
theorem dX5_layStems_207 : decode cX5_layStems 207 = .ok (.invokevirtual 85, 3) := by decide +kernel
theorem dX5_layStems_210 : decode cX5_layStems 210 = .ok (.if_icmp .le 73, 3) := by decide +kernel
theorem dX5_layStems_213 : decode cX5_layStems 213 = .ok (.aload_n 0, 1) := by decide +kernel
theorem dX5_layStems_214 : decode cX5_layStems 214 = .ok (.getfield 22, 3) := by decide +kernel
theorem dX5_layStems_217 : decode cX5_layStems 217 = .ok (.iload 4, 2) := by decide +kernel
theorem dX5_layStems_219 : decode cX5_layStems 219 = .ok (.aload_n 0, 1) := by decide +kernel
theorem dX5_layStems_220 : decode cX5_layStems 220 = .ok (.getfield 22, 3) := by decide +kernel
theorem dX5_layStems_223 : decode cX5_layStems 223 = .ok (.iload 4, 2) := by decide +kernel
theorem dX5_layStems_225 : decode cX5_layStems 225 = .ok (.iconst 1, 1) := by decide +kernel
theorem dX5_layStems_226 : decode cX5_layStems 226 = .ok (.isub, 1) := by decide +kernel
theorem dX5_layStems_227 : decode cX5_layStems 227 = .ok (.iaload, 1) := by decide +kernel
theorem dX5_layStems_228 : decode cX5_layStems 228 = .ok (.iastore, 1) := by decide +kernel
theorem dX5_layStems_229 : decode cX5_layStems 229 = .ok (.aload_n 0, 1) := by decide +kernel
theorem dX5_layStems_230 : decode cX5_layStems 230 = .ok (.getfield 25, 3) := by decide +kernel
theorem dX5_layStems_233 : decode cX5_layStems 233 = .ok (.iload 4, 2) := by decide +kernel
theorem dX5_layStems_235 : decode cX5_layStems 235 = .ok (.aload_n 0, 1) := by decide +kernel
theorem dX5_layStems_236 : decode cX5_layStems 236 = .ok (.getfield 25, 3) := by decide +kernel
theorem dX5_layStems_239 : decode cX5_layStems 239 = .ok (.iload 4, 2) := by decide +kernel
theorem dX5_layStems_241 : decode cX5_layStems 241 = .ok (.iconst 1, 1) := by decide +kernel
theorem dX5_layStems_242 : decode cX5_layStems 242 = .ok (.isub, 1) := by decide +kernel
theorem dX5_layStems_243 : decode cX5_layStems 243 = .ok (.iaload, 1) := by decide +kernel
theorem dX5_layStems_244 : decode cX5_layStems 244 = .ok (.iastore, 1) := by decide +kernel
theorem dX5_layStems_245 : decode cX5_layStems 245 = .ok (.aload_n 0, 1) := by decide +kernel
theorem dX5_layStems_246 : decode cX5_layStems 246 = .ok (.getfield 28, 3) := by decide +kernel
theorem dX5_layStems_249 : decode cX5_layStems 249 = .ok (.iload 4, 2) := by decide +kernel
theorem dX5_layStems_251 : decode cX5_layStems 251 = .ok (.aload_n 0, 1) := by decide +kernel
theorem dX5_layStems_252 : decode cX5_layStems 252 = .ok (.getfield 28, 3) := by decide +kernel
theorem dX5_layStems_255 : decode cX5_layStems 255 = .ok (.iload 4, 2) := by decide +kernel
theorem dX5_layStems_257 : decode cX5_layStems 257 = .ok (.iconst 1, 1) := by decide +kernel
theorem dX5_layStems_258 : decode cX5_layStems 258 = .ok (.isub, 1) := by decide +kernel
theorem dX5_layStems_259 : decode cX5_layStems 259 = .ok (.iaload, 1) := by decide +kernel
theorem dX5_layStems_260 : decode cX5_layStems 260 = .ok (.iastore, 1) := by decide +kernel
theorem dX5_layStems_261 : decode cX5_layStems 261 = .ok (.aload_n 0, 1) := by decide +kernel
theorem dX5_layStems_262 : decode cX5_layStems 262 = .ok (.getfield 31, 3) := by decide +kernel
theorem dX5_layStems_265 : decode cX5_layStems 265 = .ok (.iload 4, 2) := by decide +kernel
theorem dX5_layStems_267 : decode cX5_layStems 267 = .ok (.aload_n 0, 1) := by decide +kernel
theorem dX5_layStems_268 : decode cX5_layStems 268 = .ok (.getfield 31, 3) := by decide +kernel
theorem dX5_layStems_271 : decode cX5_layStems 271 = .ok (.iload 4, 2) := by decide +kernel
theorem dX5_layStems_273 : decode cX5_layStems 273 = .ok (.iconst 1, 1) := by decide +kernel
theorem dX5_layStems_274 : decode cX5_layStems 274 = .ok (.isub, 1) := by decide +kernel
theorem dX5_layStems_275 : decode cX5_layStems 275 = .ok (.iaload, 1) := by decide +kernel
theorem dX5_layStems_276 : decode cX5_layStems 276 = .ok (.iastore, 1) := by decide +kernel
theorem dX5_layStems_277 : decode cX5_layStems 277 = .ok (.iinc 4 (-1), 3) := by decide +kernel
theorem dX5_layStems_280 : decode cX5_layStems 280 = .ok (.goto (-89), 3) := by decide +kernel
theorem dX5_layStems_283 : decode cX5_layStems 283 = .ok (.aload_n 0, 1) := by decide +kernel
theorem dX5_layStems_284 : decode cX5_layStems 284 = .ok (.getfield 22, 3) := by decide +kernel
theorem dX5_layStems_287 : decode cX5_layStems 287 = .ok (.iload 4, 2) := by decide +kernel
theorem dX5_layStems_289 : decode cX5_layStems 289 = .ok (.aload_n 0, 1) := by decide +kernel
theorem dX5_layStems_290 : decode cX5_layStems 290 = .ok (.iload_n 2, 1) := by decide +kernel
theorem dX5_layStems_291 : decode cX5_layStems 291 = .ok (.invokevirtual 85, 3) := by decide +kernel
theorem dX5_layStems_294 : decode cX5_layStems 294 = .ok (.iastore, 1) := by decide +kernel
theorem dX5_layStems_295 : decode cX5_layStems 295 = .ok (.aload_n 0, 1) := by decide +kernel
theorem dX5_layStems_296 : decode cX5_layStems 296 = .ok (.getfield 25, 3) := by decide +kernel
theorem dX5_layStems_299 : decode cX5_layStems 299 = .ok (.iload 4, 2) := by decide +kernel
theorem dX5_layStems_301 : decode cX5_layStems 301 = .ok (.aload_n 0, 1) := by decide +kernel
theorem dX5_layStems_302 : decode cX5_layStems 302 = .ok (.iload_n 3, 1) := by decide +kernel
theorem dX5_layStems_303 : decode cX5_layStems 303 = .ok (.invokevirtual 85, 3) := by decide +kernel
theorem dX5_layStems_306 : decode cX5_layStems 306 = .ok (.iastore, 1) := by decide +kernel
theorem dX5_layStems_307 : decode cX5_layStems 307 = .ok (.aload_n 0, 1) := by decide +kernel
theorem dX5_layStems_308 : decode cX5_layStems 308 = .ok (.getfield 28, 3) := by decide +kernel
theorem dX5_layStems_311 : decode cX5_layStems 311 = .ok (.iload 4, 2) := by decide +kernel
theorem dX5_layStems_313 : decode cX5_layStems 313 = .ok (.iload_n 2, 1) := by decide +kernel
theorem dX5_layStems_314 : decode cX5_layStems 314 = .ok (.iastore, 1) := by decide +kernel
theorem dX5_layStems_315 : decode cX5_layStems 315 = .ok (.aload_n 0, 1) := by decide +kernel
theorem dX5_layStems_316 : decode cX5_layStems 316 = .ok (.getfield 31, 3) := by decide +kernel
theorem dX5_layStems_319 : decode cX5_layStems 319 = .ok (.iload 4, 2) := by decide +kernel
theorem dX5_layStems_321 : decode cX5_layStems 321 = .ok (.iload_n 3, 1) := by decide +kernel
theorem dX5_layStems_322 : decode cX5_layStems 322 = .ok (.iastore, 1) := by decide +kernel
theorem dX5_layStems_323 : decode cX5_layStems 323 = .ok (.aload_n 0, 1) := by decide +kernel
theorem dX5_layStems_324 : decode cX5_layStems 324 = .ok (.dup, 1) := by decide +kernel
theorem dX5_layStems_325 : decode cX5_layStems 325 = .ok (.getfield 89, 3) := by decide +kernel
theorem dX5_layStems_328 : decode cX5_layStems 328 = .ok (.iconst 1, 1) := by decide +kernel
theorem dX5_layStems_329 : decode cX5_layStems 329 = .ok (.iadd, 1) := by decide +kernel
theorem dX5_layStems_330 : decode cX5_layStems 330 = .ok (.putfield 89, 3) := by decide +kernel
theorem dX5_layStems_333 : decode cX5_layStems 333 = .ok (.goto (-326), 3) := by decide +kernel
theorem dX5_layStems_336 : decode cX5_layStems 336 = .ok (.iconst 0, 1) := by decide +kernel
theorem dX5_layStems_337 : decode cX5_layStems 337 = .ok (.istore_n 2, 1) := by decide +kernel
theorem dX5_layStems_338 : decode cX5_layStems 338 = .ok (.iload_n 2, 1) := by decide +kernel
theorem dX5_layStems_339 : decode cX5_layStems 339 = .ok (.bipush 16, 2) := by decide +kernel
theorem dX5_layStems_341 : decode cX5_layStems 341 = .ok (.if_icmp .ge 17, 3) := by decide +kernel
theorem dX5_layStems_344 : decode cX5_layStems 344 = .ok (.aload_n 0, 1) := by decide +kernel
theorem dX5_layStems_345 : decode cX5_layStems 345 = .ok (.getfield 37, 3) := by decide +kernel
theorem dX5_layStems_348 : decode cX5_layStems 348 = .ok (.iload_n 2, 1) := by decide +kernel
theorem dX5_layStems_349 : decode cX5_layStems 349 = .ok (.bipush (-6), 2) := by decide +kernel
theorem dX5_layStems_351 : decode cX5_layStems 351 = .ok (.iastore, 1) := by decide +kernel
theorem dX5_layStems_352 : decode cX5_layStems 352 = .ok (.iinc 2 1, 3) := by decide +kernel
theorem dX5_layStems_355 : decode cX5_layStems 355 = .ok (.goto (-17), 3) := by decide +kernel
theorem dX5_layStems_358 : decode cX5_layStems 358 = .ok (.iconst 0, 1) := by decide +kernel
theorem dX5_layStems_359 : decode cX5_layStems 359 = .ok (.istore_n 2, 1) := by decide +kernel
theorem dX5_layStems_360 : decode cX5_layStems 360 = .ok (.iload_n 2, 1) := by decide +kernel
theorem dX5_layStems_361 : decode cX5_layStems 361 = .ok (.aload_n 0, 1) := by decide +kernel
theorem dX5_layStems_362 : decode cX5_layStems 362 = .ok (.getfield 89, 3) := by decide +kernel
theorem dX5_layStems_365 : decode cX5_layStems 365 = .ok (.if_icmp .ge 33, 3) := by decide +kernel
theorem dX5_layStems_368 : decode cX5_layStems 368 = .ok (.aload_n 0, 1) := by decide +kernel
theorem dX5_layStems_369 : decode cX5_layStems 369 = .ok (.getfield 37, 3) := by decide +kernel
theorem dX5_layStems_372 : decode cX5_layStems 372 = .ok (.aload_n 0, 1) := by decide +kernel
theorem dX5_layStems_373 : decode cX5_layStems 373 = .ok (.getfield 28, 3) := by decide +kernel
theorem dX5_layStems_376 : decode cX5_layStems 376 = .ok (.iload_n 2, 1) := by decide +kernel
theorem dX5_layStems_377 : decode cX5_layStems 377 = .ok (.iaload, 1) := by decide +kernel
theorem dX5_layStems_378 : decode cX5_layStems 378 = .ok (.iload_n 2, 1) := by decide +kernel
theorem dX5_layStems_379 : decode cX5_layStems 379 = .ok (.iastore, 1) := by decide +kernel
theorem dX5_layStems_380 : decode cX5_layStems 380 = .ok (.aload_n 0, 1) := by decide +kernel
theorem dX5_layStems_381 : decode cX5_layStems 381 = .ok (.getfield 37, 3) := by decide +kernel
theorem dX5_layStems_384 : decode cX5_layStems 384 = .ok (.aload_n 0, 1) := by decide +kernel
theorem dX5_layStems_385 : decode cX5_layStems 385 = .ok (.getfield 31, 3) := by decide +kernel
theorem dX5_layStems_388 : decode cX5_layStems 388 = .ok (.iload_n 2, 1) := by decide +kernel
theorem dX5_layStems_389 : decode cX5_layStems 389 = .ok (.iaload, 1) := by decide +kernel
theorem dX5_layStems_390 : decode cX5_layStems 390 = .ok (.iload_n 2, 1) := by decide +kernel
theorem dX5_layStems_391 : decode cX5_layStems 391 = .ok (.iastore, 1) := by decide +kernel
theorem dX5_layStems_392 : decode cX5_layStems 392 = .ok (.iinc 2 1, 3) := by decide +kernel
theorem dX5_layStems_395 : decode cX5_layStems 395 = .ok (.goto (-35), 3) := by decide +kernel
theorem dX5_layStems_398 : decode cX5_layStems 398 = .ok (.aload_n 0, 1) := by decide +kernel
theorem dX5_layStems_399 : decode cX5_layStems 399 = .ok (.invokevirtual 99, 3) := by decide +kernel
theorem dX5_layStems_402 : decode cX5_layStems 402 = .ok (.return_, 1) := by decide +kernel
theorem dX5_width_0 : decode cX5_width 0 = .ok (.aload_n 0, 1) := by decide +kernel
theorem dX5_width_1 : decode cX5_width 1 = .ok (.getfield 25, 3) := by decide +kernel
theorem dX5_width_4 : decode cX5_width 4 = .ok (.iload_n 1, 1) := by decide +kernel
theorem dX5_width_5 : decode cX5_width 5 = .ok (.iaload, 1) := by decide +kernel
theorem dX5_width_6 : decode cX5_width 6 = .ok (.aload_n 0, 1) := by decide +kernel
theorem dX5_width_7 : decode cX5_width 7 = .ok (.getfield 22, 3) := by decide +kernel
theorem dX5_width_10 : decode cX5_width 10 = .ok (.iload_n 1, 1) := by decide +kernel
theorem dX5_width_11 : decode cX5_width 11 = .ok (.iaload, 1) := by decide +kernel
theorem dX5_width_12 : decode cX5_width 12 = .ok (.isub, 1) := by decide +kernel
theorem dX5_width_13 : decode cX5_width 13 = .ok (.ireturn, 1) := by decide +kernel
set_option maxRecDepth 20000 in
theorem ggX5_layKinds_X5_width : GoodIn wsX5_layKinds wsX5_width := goodIn_r _ [12, 13, 14, 15, 16, 17, 18, 19, 20, 21, 22, 23, 24, 25, 26, 27, 28, 29, 30, 31, 32, 33, 34, 35, 36, 37] (by decide +kernel) (by decide +kernel)
set_option maxRecDepth 20000 in
theorem gX5_layKinds_X5_width : GoodIn wsX5_layKinds (wsV RX5 105 RX5 yX5_width wsX5_width) := goodIn_app (goodIn_of _ (by decide +kernel)) ggX5_layKinds_X5_width
theorem dX5_layKinds_0 : decode cX5_layKinds 0 = .ok (.aload_n 0, 1) := by decide +kernel
theorem dX5_layKinds_1 : decode cX5_layKinds 1 = .ok (.iconst 0, 1) := by decide +kernel
theorem dX5_layKinds_2 : decode cX5_layKinds 2 = .ok (.putfield 102, 3) := by decide +kernel
theorem dX5_layKinds_5 : decode cX5_layKinds 5 = .ok (.iconst 0, 1) := by decide +kernel
theorem dX5_layKinds_6 : decode cX5_layKinds 6 = .ok (.istore_n 1, 1) := by decide +kernel
theorem dX5_layKinds_7 : decode cX5_layKinds 7 = .ok (.iload_n 1, 1) := by decide +kernel
theorem dX5_layKinds_8 : decode cX5_layKinds 8 = .ok (.aload_n 0, 1) := by decide +kernel
theorem dX5_layKinds_9 : decode cX5_layKinds 9 = .ok (.getfield 89, 3) := by decide +kernel
theorem dX5_layKinds_12 : decode cX5_layKinds 12 = .ok (.if_icmp .ge 17, 3) := by decide +kernel
theorem dX5_layKinds_15 : decode cX5_layKinds 15 = .ok (.aload_n 0, 1) := by decide +kernel
theorem dX5_layKinds_16 : decode cX5_layKinds 16 = .ok (.getfield 34, 3) := by decide +kernel
theorem dX5_layKinds_19 : decode cX5_layKinds 19 = .ok (.iload_n 1, 1) := by decide +kernel
theorem dX5_layKinds_20 : decode cX5_layKinds 20 = .ok (.bipush (-6), 2) := by decide +kernel
theorem dX5_layKinds_22 : decode cX5_layKinds 22 = .ok (.iastore, 1) := by decide +kernel
theorem dX5_layKinds_23 : decode cX5_layKinds 23 = .ok (.iinc 1 1, 3) := by decide +kernel
theorem dX5_layKinds_26 : decode cX5_layKinds 26 = .ok (.goto (-19), 3) := by decide +kernel
theorem dX5_layKinds_29 : decode cX5_layKinds 29 = .ok (.iconst 0, 1) := by decide +kernel
theorem dX5_layKinds_30 : decode cX5_layKinds 30 = .ok (.istore_n 1, 1) := by decide +kernel
theorem dX5_layKinds_31 : decode cX5_layKinds 31 = .ok (.iload_n 1, 1) := by decide +kernel
theorem dX5_layKinds_32 : decode cX5_layKinds 32 = .ok (.aload_n 0, 1) := by decide +kernel
theorem dX5_layKinds_33 : decode cX5_layKinds 33 = .ok (.getfield 89, 3) := by decide +kernel
theorem dX5_layKinds_36 : decode cX5_layKinds 36 = .ok (.if_icmp .ge 183, 3) := by decide +kernel
theorem dX5_layKinds_39 : decode cX5_layKinds 39 = .ok (.bipush (-6), 2) := by decide +kernel
theorem dX5_layKinds_41 : decode cX5_layKinds 41 = .ok (.istore_n 2, 1) := by decide +kernel
theorem dX5_layKinds_42 : decode cX5_layKinds 42 = .ok (.iconst 0, 1) := by decide +kernel
theorem dX5_layKinds_43 : decode cX5_layKinds 43 = .ok (.istore_n 3, 1) := by decide +kernel
theorem dX5_layKinds_44 : decode cX5_layKinds 44 = .ok (.iload_n 3, 1) := by decide +kernel
theorem dX5_layKinds_45 : decode cX5_layKinds 45 = .ok (.aload_n 0, 1) := by decide +kernel
theorem dX5_layKinds_46 : decode cX5_layKinds 46 = .ok (.getfield 89, 3) := by decide +kernel
theorem dX5_layKinds_49 : decode cX5_layKinds 49 = .ok (.if_icmp .ge 41, 3) := by decide +kernel
theorem dX5_layKinds_52 : decode cX5_layKinds 52 = .ok (.aload_n 0, 1) := by decide +kernel
theorem dX5_layKinds_53 : decode cX5_layKinds 53 = .ok (.getfield 34, 3) := by decide +kernel
theorem dX5_layKinds_56 : decode cX5_layKinds 56 = .ok (.iload_n 3, 1) := by decide +kernel
theorem dX5_layKinds_57 : decode cX5_layKinds 57 = .ok (.iaload, 1) := by decide +kernel
theorem dX5_layKinds_58 : decode cX5_layKinds 58 = .ok (.ifCond .ge 24, 3) := by decide +kernel
theorem dX5_layKinds_61 : decode cX5_layKinds 61 = .ok (.iload_n 2, 1) := by decide +kernel
theorem dX5_layKinds_62 : decode cX5_layKinds 62 = .ok (.ifCond .lt 16, 3) := by decide +kernel
theorem dX5_layKinds_65 : decode cX5_layKinds 65 = .ok (.aload_n 0, 1) := by decide +kernel
theorem dX5_layKinds_66 : decode cX5_layKinds 66 = .ok (.iload_n 3, 1) := by decide +kernel
theorem dX5_layKinds_67 : decode cX5_layKinds 67 = .ok (.invokevirtual 105, 3) := by decide +kernel
theorem dX5_layKinds_70 : decode cX5_layKinds 70 = .ok (.aload_n 0, 1) := by decide +kernel
theorem dX5_layKinds_71 : decode cX5_layKinds 71 = .ok (.iload_n 2, 1) := by decide +kernel
theorem dX5_layKinds_72 : decode cX5_layKinds 72 = .ok (.invokevirtual 105, 3) := by decide +kernel
theorem dX5_layKinds_75 : decode cX5_layKinds 75 = .ok (.if_icmp .ge 7, 3) := by decide +kernel
theorem dX5_layKinds_78 : decode cX5_layKinds 78 = .ok (.iload_n 3, 1) := by decide +kernel
theorem dX5_layKinds_79 : decode cX5_layKinds 79 = .ok (.goto 4, 3) := by decide +kernel
theorem dX5_layKinds_82 : decode cX5_layKinds 82 = .ok (.iload_n 2, 1) := by decide +kernel
theorem dX5_layKinds_83 : decode cX5_layKinds 83 = .ok (.istore_n 2, 1) := by decide +kernel
theorem dX5_layKinds_84 : decode cX5_layKinds 84 = .ok (.iinc 3 1, 3) := by decide +kernel
theorem dX5_layKinds_87 : decode cX5_layKinds 87 = .ok (.goto (-43), 3) := by decide +kernel
theorem dX5_layKinds_90 : decode cX5_layKinds 90 = .ok (.aload_n 0, 1) := by decide +kernel
theorem dX5_layKinds_91 : decode cX5_layKinds 91 = .ok (.getfield 102, 3) := by decide +kernel
theorem dX5_layKinds_94 : decode cX5_layKinds 94 = .ok (.ifCond .eq 29, 3) := by decide +kernel
theorem dX5_layKinds_97 : decode cX5_layKinds 97 = .ok (.aload_n 0, 1) := by decide +kernel
theorem dX5_layKinds_98 : decode cX5_layKinds 98 = .ok (.iload_n 2, 1) := by decide +kernel
theorem dX5_layKinds_99 : decode cX5_layKinds 99 = .ok (.invokevirtual 105, 3) := by decide +kernel
theorem dX5_layKinds_102 : decode cX5_layKinds 102 = .ok (.aload_n 0, 1) := by decide +kernel
theorem dX5_layKinds_103 : decode cX5_layKinds 103 = .ok (.getfield 43, 3) := by decide +kernel
theorem dX5_layKinds_106 : decode cX5_layKinds 106 = .ok (.aload_n 0, 1) := by decide +kernel
theorem dX5_layKinds_107 : decode cX5_layKinds 107 = .ok (.getfield 102, 3) := by decide +kernel
theorem dX5_layKinds_110 : decode cX5_layKinds 110 = .ok (.iconst 1, 1) := by decide +kernel
theorem dX5_layKinds_111 : decode cX5_layKinds 111 = .ok (.isub, 1) := by decide +kernel
theorem dX5_layKinds_112 : decode cX5_layKinds 112 = .ok (.iaload, 1) := by decide +kernel
theorem dX5_layKinds_113 : decode cX5_layKinds 113 = .ok (.isub, 1) := by decide +kernel
theorem dX5_layKinds_114 : decode cX5_layKinds 114 = .ok (.aload_n 0, 1) := by decide +kernel
theorem dX5_layKinds_115 : decode cX5_layKinds 115 = .ok (.getfield 13, 3) := by decide +kernel
theorem dX5_layKinds_118 : decode cX5_layKinds 118 = .ok (.iconst 0, 1) := by decide +kernel
theorem dX5_layKinds_119 : decode cX5_layKinds 119 = .ok (.iaload, 1) := by decide +kernel
theorem dX5_layKinds_120 : decode cX5_layKinds 120 = .ok (.if_icmp .le 47, 3) := by decide +kernel
theorem dX5_layKinds_123 : decode cX5_layKinds 123 = .ok (.aload_n 0, 1) := by decide +kernel
theorem dX5_layKinds_124 : decode cX5_layKinds 124 = .ok (.getfield 43, 3) := by decide +kernel
theorem dX5_layKinds_127 : decode cX5_layKinds 127 = .ok (.aload_n 0, 1) := by decide +kernel
theorem dX5_layKinds_128 : decode cX5_layKinds 128 = .ok (.getfield 102, 3) := by decide +kernel
theorem dX5_layKinds_131 : decode cX5_layKinds 131 = .ok (.aload_n 0, 1) := by decide +kernel
theorem dX5_layKinds_132 : decode cX5_layKinds 132 = .ok (.iload_n 2, 1) := by decide +kernel
theorem dX5_layKinds_133 : decode cX5_layKinds 133 = .ok (.invokevirtual 105, 3) := by decide +kernel
theorem dX5_layKinds_136 : decode cX5_layKinds 136 = .ok (.iastore, 1) := by decide +kernel
theorem dX5_layKinds_137 : decode cX5_layKinds 137 = .ok (.aload_n 0, 1) := by decide +kernel
theorem dX5_layKinds_138 : decode cX5_layKinds 138 = .ok (.getfield 40, 3) := by decide +kernel
theorem dX5_layKinds_141 : decode cX5_layKinds 141 = .ok (.aload_n 0, 1) := by decide +kernel
theorem dX5_layKinds_142 : decode cX5_layKinds 142 = .ok (.getfield 102, 3) := by decide +kernel
theorem dX5_layKinds_145 : decode cX5_layKinds 145 = .ok (.iconst 0, 1) := by decide +kernel
theorem dX5_layKinds_146 : decode cX5_layKinds 146 = .ok (.iastore, 1) := by decide +kernel
theorem dX5_layKinds_147 : decode cX5_layKinds 147 = .ok (.aload_n 0, 1) := by decide +kernel
theorem dX5_layKinds_148 : decode cX5_layKinds 148 = .ok (.getfield 46, 3) := by decide +kernel
theorem dX5_layKinds_151 : decode cX5_layKinds 151 = .ok (.aload_n 0, 1) := by decide +kernel
theorem dX5_layKinds_152 : decode cX5_layKinds 152 = .ok (.getfield 102, 3) := by decide +kernel
theorem dX5_layKinds_155 : decode cX5_layKinds 155 = .ok (.iconst 0, 1) := by decide +kernel
theorem dX5_layKinds_156 : decode cX5_layKinds 156 = .ok (.iastore, 1) := by decide +kernel
theorem dX5_layKinds_157 : decode cX5_layKinds 157 = .ok (.aload_n 0, 1) := by decide +kernel
theorem dX5_layKinds_158 : decode cX5_layKinds 158 = .ok (.dup, 1) := by decide +kernel
theorem dX5_layKinds_159 : decode cX5_layKinds 159 = .ok (.getfield 102, 3) := by decide +kernel
theorem dX5_layKinds_162 : decode cX5_layKinds 162 = .ok (.iconst 1, 1) := by decide +kernel
theorem dX5_layKinds_163 : decode cX5_layKinds 163 = .ok (.iadd, 1) := by decide +kernel
theorem dX5_layKinds_164 : decode cX5_layKinds 164 = .ok (.putfield 102, 3) := by decide +kernel
theorem dX5_layKinds_167 : decode cX5_layKinds 167 = .ok (.aload_n 0, 1) := by decide +kernel
theorem dX5_layKinds_168 : decode cX5_layKinds 168 = .ok (.getfield 34, 3) := by decide +kernel
theorem dX5_layKinds_171 : decode cX5_layKinds 171 = .ok (.iload_n 2, 1) := by decide +kernel
theorem dX5_layKinds_172 : decode cX5_layKinds 172 = .ok (.aload_n 0, 1) := by decide +kernel
theorem dX5_layKinds_173 : decode cX5_layKinds 173 = .ok (.getfield 102, 3) := by decide +kernel
theorem dX5_layKinds_176 : decode cX5_layKinds 176 = .ok (.iconst 1, 1) := by decide +kernel
theorem dX5_layKinds_177 : decode cX5_layKinds 177 = .ok (.isub, 1) := by decide +kernel
theorem dX5_layKinds_178 : decode cX5_layKinds 178 = .ok (.iastore, 1) := by decide +kernel
theorem dX5_layKinds_179 : decode cX5_layKinds 179 = .ok (.aload_n 0, 1) := by decide +kernel
theorem dX5_layKinds_180 : decode cX5_layKinds 180 = .ok (.getfield 40, 3) := by decide +kernel
theorem dX5_layKinds_183 : decode cX5_layKinds 183 = .ok (.aload_n 0, 1) := by decide +kernel
theorem dX5_layKinds_184 : decode cX5_layKinds 184 = .ok (.getfield 102, 3) := by decide +kernel
theorem dX5_layKinds_187 : decode cX5_layKinds 187 = .ok (.iconst 1, 1) := by decide +kernel
theorem dX5_layKinds_188 : decode cX5_layKinds 188 = .ok (.isub, 1) := by decide +kernel
theorem dX5_layKinds_189 : decode cX5_layKinds 189 = .ok (.dup2, 1) := by decide +kernel
theorem dX5_layKinds_190 : decode cX5_layKinds 190 = .ok (.iaload, 1) := by decide +kernel
theorem dX5_layKinds_191 : decode cX5_layKinds 191 = .ok (.iconst 1, 1) := by decide +kernel
theorem dX5_layKinds_192 : decode cX5_layKinds 192 = .ok (.iadd, 1) := by decide +kernel
theorem dX5_layKinds_193 : decode cX5_layKinds 193 = .ok (.iastore, 1) := by decide +kernel
theorem dX5_layKinds_194 : decode cX5_layKinds 194 = .ok (.aload_n 0, 1) := by decide +kernel
theorem dX5_layKinds_195 : decode cX5_layKinds 195 = .ok (.getfield 46, 3) := by decide +kernel
theorem dX5_layKinds_198 : decode cX5_layKinds 198 = .ok (.aload_n 0, 1) := by decide +kernel
theorem dX5_layKinds_199 : decode cX5_layKinds 199 = .ok (.getfield 102, 3) := by decide +kernel
theorem dX5_layKinds_202 : decode cX5_layKinds 202 = .ok (.iconst 1, 1) := by decide +kernel
theorem dX5_layKinds_203 : decode cX5_layKinds 203 = .ok (.isub, 1) := by decide +kernel
theorem dX5_layKinds_204 : decode cX5_layKinds 204 = .ok (.dup2, 1) := by decide +kernel
theorem dX5_layKinds_205 : decode cX5_layKinds 205 = .ok (.iaload, 1) := by decide +kernel
theorem dX5_layKinds_206 : decode cX5_layKinds 206 = .ok (.aload_n 0, 1) := by decide +kernel
theorem dX5_layKinds_207 : decode cX5_layKinds 207 = .ok (.iload_n 2, 1) := by decide +kernel
theorem dX5_layKinds_208 : decode cX5_layKinds 208 = .ok (.invokevirtual 105, 3) := by decide +kernel
theorem dX5_layKinds_211 : decode cX5_layKinds 211 = .ok (.iadd, 1) := by decide +kernel
theorem dX5_layKinds_212 : decode cX5_layKinds 212 = .ok (.iastore, 1) := by decide +kernel
theorem dX5_layKinds_213 : decode cX5_layKinds 213 = .ok (.iinc 1 1, 3) := by decide +kernel
theorem dX5_layKinds_216 : decode cX5_layKinds 216 = .ok (.goto (-185), 3) := by decide +kernel
theorem dX5_layKinds_219 : decode cX5_layKinds 219 = .ok (.return_, 1) := by decide +kernel
set_option maxRecDepth 20000 in
theorem ggX5_told_X5_in : GoodIn wsX5_told wsX5_in := goodIn_r _ [7] (by decide +kernel) (by decide +kernel)
set_option maxRecDepth 20000 in
theorem gX5_told_X5_in : GoodIn wsX5_told (va_wsS RX5 66 yX5_in wsX5_in) := goodIn_app (goodIn_of _ (by decide +kernel)) ggX5_told_X5_in
set_option maxRecDepth 20000 in
theorem ggX5_told_X5_layStems : GoodIn wsX5_told wsX5_layStems := goodIn_r _ [11, 12, 1, 13, 14, 15, 16, 3, 17, 18, 19, 6, 20, 2, 21, 22, 23, 24, 25, 26, 27, 28, 29, 30, 31, 32, 33, 34, 35, 36, 37, 38, 39, 40, 41, 42, 43, 44, 45, 46, 47, 48, 49, 50, 51, 52, 53, 54, 55, 56, 57, 58, 59, 60, 61, 62, 63, 64, 65] (by decide +kernel) (by decide +kernel)
set_option maxRecDepth 20000 in
theorem gX5_told_X5_layStems : GoodIn wsX5_told (wsV RX5 108 RX5 yX5_layStems wsX5_layStems) := goodIn_app (goodIn_of _ (by decide +kernel)) ggX5_told_X5_layStems
theorem dX5_told_0 : decode cX5_told 0 = .ok (.iload_n 1, 1) := by decide +kernel
theorem dX5_told_1 : decode cX5_told 1 = .ok (.iconst 0, 1) := by decide +kernel
theorem dX5_told_2 : decode cX5_told 2 = .ok (.aload_n 0, 1) := by decide +kernel
theorem dX5_told_3 : decode cX5_told 3 = .ok (.getfield 82, 3) := by decide +kernel
theorem dX5_told_6 : decode cX5_told 6 = .ok (.iconst 1, 1) := by decide +kernel
theorem dX5_told_7 : decode cX5_told 7 = .ok (.isub, 1) := by decide +kernel
theorem dX5_told_8 : decode cX5_told 8 = .ok (.invokestatic 66, 3) := by decide +kernel
theorem dX5_told_11 : decode cX5_told 11 = .ok (.ifCond .ne 5, 3) := by decide +kernel
theorem dX5_told_14 : decode cX5_told 14 = .ok (.iconst (-1), 1) := by decide +kernel
theorem dX5_told_15 : decode cX5_told 15 = .ok (.ireturn, 1) := by decide +kernel
theorem dX5_told_16 : decode cX5_told 16 = .ok (.iload_n 2, 1) := by decide +kernel
theorem dX5_told_17 : decode cX5_told 17 = .ok (.iconst 0, 1) := by decide +kernel
theorem dX5_told_18 : decode cX5_told 18 = .ok (.iconst 4, 1) := by decide +kernel
theorem dX5_told_19 : decode cX5_told 19 = .ok (.invokestatic 66, 3) := by decide +kernel
theorem dX5_told_22 : decode cX5_told 22 = .ok (.ifCond .ne 6, 3) := by decide +kernel
theorem dX5_told_25 : decode cX5_told 25 = .ok (.bipush (-2), 2) := by decide +kernel
theorem dX5_told_27 : decode cX5_told 27 = .ok (.ireturn, 1) := by decide +kernel
theorem dX5_told_28 : decode cX5_told 28 = .ok (.aload_n 0, 1) := by decide +kernel
theorem dX5_told_29 : decode cX5_told 29 = .ok (.invokevirtual 108, 3) := by decide +kernel
theorem dX5_told_32 : decode cX5_told 32 = .ok (.iload_n 2, 1) := by decide +kernel
theorem dX5_told_33 : decode cX5_told 33 = .ok (.iconst 4, 1) := by decide +kernel
theorem dX5_told_34 : decode cX5_told 34 = .ok (.if_icmp .ge 16, 3) := by decide +kernel
theorem dX5_told_37 : decode cX5_told 37 = .ok (.aload_n 0, 1) := by decide +kernel
theorem dX5_told_38 : decode cX5_told 38 = .ok (.getfield 7, 3) := by decide +kernel
theorem dX5_told_41 : decode cX5_told 41 = .ok (.iconst 4, 1) := by decide +kernel
theorem dX5_told_42 : decode cX5_told 42 = .ok (.iload_n 1, 1) := by decide +kernel
theorem dX5_told_43 : decode cX5_told 43 = .ok (.imul, 1) := by decide +kernel
theorem dX5_told_44 : decode cX5_told 44 = .ok (.iload_n 2, 1) := by decide +kernel
theorem dX5_told_45 : decode cX5_told 45 = .ok (.iadd, 1) := by decide +kernel
theorem dX5_told_46 : decode cX5_told 46 = .ok (.iaload, 1) := by decide +kernel
theorem dX5_told_47 : decode cX5_told 47 = .ok (.goto 9, 3) := by decide +kernel
theorem dX5_told_50 : decode cX5_told 50 = .ok (.aload_n 0, 1) := by decide +kernel
theorem dX5_told_51 : decode cX5_told 51 = .ok (.getfield 37, 3) := by decide +kernel
theorem dX5_told_54 : decode cX5_told 54 = .ok (.iload_n 1, 1) := by decide +kernel
theorem dX5_told_55 : decode cX5_told 55 = .ok (.iaload, 1) := by decide +kernel
theorem dX5_told_56 : decode cX5_told 56 = .ok (.ireturn, 1) := by decide +kernel
set_option maxRecDepth 20000 in
theorem ggX5_stem_X5_layStems : GoodIn wsX5_stem wsX5_layStems := goodIn_r _ [11, 1, 12, 2, 3, 4, 5, 13, 14, 15, 16, 10, 17, 18, 19, 20, 21, 22, 23, 24, 25, 26, 27, 28, 29, 30, 31, 6, 32, 33, 34, 35, 36, 37, 38, 39, 43, 44, 45, 46, 47, 48, 49, 50, 51, 52, 53, 54, 55, 56, 57, 58, 59, 60, 61, 62, 63, 64, 65] (by decide +kernel) (by decide +kernel)
set_option maxRecDepth 20000 in
theorem gX5_stem_X5_layStems : GoodIn wsX5_stem (wsV RX5 108 RX5 yX5_layStems wsX5_layStems) := goodIn_app (goodIn_of _ (by decide +kernel)) ggX5_stem_X5_layStems
set_option maxRecDepth 20000 in
theorem ggX5_stem_X5_in : GoodIn wsX5_stem wsX5_in := goodIn_r _ [42] (by decide +kernel) (by decide +kernel)
set_option maxRecDepth 20000 in
theorem gX5_stem_X5_in : GoodIn wsX5_stem (va_wsS RX5 66 yX5_in wsX5_in) := goodIn_app (goodIn_of _ (by decide +kernel)) ggX5_stem_X5_in
theorem dX5_stem_0 : decode cX5_stem 0 = .ok (.aload_n 0, 1) := by decide +kernel
theorem dX5_stem_1 : decode cX5_stem 1 = .ok (.invokevirtual 108, 3) := by decide +kernel
theorem dX5_stem_4 : decode cX5_stem 4 = .ok (.iload_n 1, 1) := by decide +kernel
theorem dX5_stem_5 : decode cX5_stem 5 = .ok (.iconst 0, 1) := by decide +kernel
theorem dX5_stem_6 : decode cX5_stem 6 = .ok (.aload_n 0, 1) := by decide +kernel
theorem dX5_stem_7 : decode cX5_stem 7 = .ok (.getfield 89, 3) := by decide +kernel
theorem dX5_stem_10 : decode cX5_stem 10 = .ok (.iconst 1, 1) := by decide +kernel
theorem dX5_stem_11 : decode cX5_stem 11 = .ok (.isub, 1) := by decide +kernel
theorem dX5_stem_12 : decode cX5_stem 12 = .ok (.invokestatic 66, 3) := by decide +kernel
theorem dX5_stem_15 : decode cX5_stem 15 = .ok (.ifCond .ne 5, 3) := by decide +kernel
theorem dX5_stem_18 : decode cX5_stem 18 = .ok (.iconst (-1), 1) := by decide +kernel
theorem dX5_stem_19 : decode cX5_stem 19 = .ok (.ireturn, 1) := by decide +kernel
theorem dX5_stem_20 : decode cX5_stem 20 = .ok (.iload_n 2, 1) := by decide +kernel
theorem dX5_stem_21 : decode cX5_stem 21 = .ok (.tableswitch 59 0 3 #[31, 38, 45, 52], 31) := by decide +kernel
theorem dX5_stem_52 : decode cX5_stem 52 = .ok (.aload_n 0, 1) := by decide +kernel
theorem dX5_stem_53 : decode cX5_stem 53 = .ok (.getfield 22, 3) := by decide +kernel
theorem dX5_stem_56 : decode cX5_stem 56 = .ok (.iload_n 1, 1) := by decide +kernel
theorem dX5_stem_57 : decode cX5_stem 57 = .ok (.iaload, 1) := by decide +kernel
theorem dX5_stem_58 : decode cX5_stem 58 = .ok (.ireturn, 1) := by decide +kernel
theorem dX5_stem_59 : decode cX5_stem 59 = .ok (.aload_n 0, 1) := by decide +kernel
theorem dX5_stem_60 : decode cX5_stem 60 = .ok (.getfield 25, 3) := by decide +kernel
theorem dX5_stem_63 : decode cX5_stem 63 = .ok (.iload_n 1, 1) := by decide +kernel
theorem dX5_stem_64 : decode cX5_stem 64 = .ok (.iaload, 1) := by decide +kernel
theorem dX5_stem_65 : decode cX5_stem 65 = .ok (.ireturn, 1) := by decide +kernel
theorem dX5_stem_66 : decode cX5_stem 66 = .ok (.aload_n 0, 1) := by decide +kernel
theorem dX5_stem_67 : decode cX5_stem 67 = .ok (.getfield 28, 3) := by decide +kernel
theorem dX5_stem_70 : decode cX5_stem 70 = .ok (.iload_n 1, 1) := by decide +kernel
theorem dX5_stem_71 : decode cX5_stem 71 = .ok (.iaload, 1) := by decide +kernel
theorem dX5_stem_72 : decode cX5_stem 72 = .ok (.ireturn, 1) := by decide +kernel
theorem dX5_stem_73 : decode cX5_stem 73 = .ok (.aload_n 0, 1) := by decide +kernel
theorem dX5_stem_74 : decode cX5_stem 74 = .ok (.getfield 31, 3) := by decide +kernel
theorem dX5_stem_77 : decode cX5_stem 77 = .ok (.iload_n 1, 1) := by decide +kernel
theorem dX5_stem_78 : decode cX5_stem 78 = .ok (.iaload, 1) := by decide +kernel
theorem dX5_stem_79 : decode cX5_stem 79 = .ok (.ireturn, 1) := by decide +kernel
theorem dX5_stem_80 : decode cX5_stem 80 = .ok (.iload_n 2, 1) := by decide +kernel
theorem dX5_stem_81 : decode cX5_stem 81 = .ok (.iconst 4, 1) := by decide +kernel
theorem dX5_stem_82 : decode cX5_stem 82 = .ok (.if_icmp .ne 12, 3) := by decide +kernel
theorem dX5_stem_85 : decode cX5_stem 85 = .ok (.aload_n 0, 1) := by decide +kernel
theorem dX5_stem_86 : decode cX5_stem 86 = .ok (.getfield 34, 3) := by decide +kernel
theorem dX5_stem_89 : decode cX5_stem 89 = .ok (.iload_n 1, 1) := by decide +kernel
theorem dX5_stem_90 : decode cX5_stem 90 = .ok (.iaload, 1) := by decide +kernel
theorem dX5_stem_91 : decode cX5_stem 91 = .ok (.goto 5, 3) := by decide +kernel
theorem dX5_stem_94 : decode cX5_stem 94 = .ok (.bipush (-2), 2) := by decide +kernel
theorem dX5_stem_96 : decode cX5_stem 96 = .ok (.ireturn, 1) := by decide +kernel
set_option maxRecDepth 20000 in
theorem ggX5_kind_X5_layStems : GoodIn wsX5_kind wsX5_layStems := goodIn_r _ [9, 10, 11, 12, 13, 14, 15, 16, 17, 18, 19, 8, 20, 21, 22, 23, 24, 25, 26, 27, 28, 29, 30, 31, 32, 33, 1, 34, 3, 35, 2, 4, 36, 37, 38, 39, 43, 44, 45, 46, 47, 48, 49, 50, 51, 52, 53, 54, 55, 56, 57, 58, 59, 60, 61, 62, 63, 64, 65] (by decide +kernel) (by decide +kernel)
set_option maxRecDepth 20000 in
theorem gX5_kind_X5_layStems : GoodIn wsX5_kind (wsV RX5 108 RX5 yX5_layStems wsX5_layStems) := goodIn_app (goodIn_of _ (by decide +kernel)) ggX5_kind_X5_layStems
set_option maxRecDepth 20000 in
theorem ggX5_kind_X5_in : GoodIn wsX5_kind wsX5_in := goodIn_r _ [42] (by decide +kernel) (by decide +kernel)
set_option maxRecDepth 20000 in
theorem gX5_kind_X5_in : GoodIn wsX5_kind (va_wsS RX5 66 yX5_in wsX5_in) := goodIn_app (goodIn_of _ (by decide +kernel)) ggX5_kind_X5_in
theorem dX5_kind_0 : decode cX5_kind 0 = .ok (.aload_n 0, 1) := by decide +kernel
theorem dX5_kind_1 : decode cX5_kind 1 = .ok (.invokevirtual 108, 3) := by decide +kernel
theorem dX5_kind_4 : decode cX5_kind 4 = .ok (.iload_n 1, 1) := by decide +kernel
theorem dX5_kind_5 : decode cX5_kind 5 = .ok (.iconst 0, 1) := by decide +kernel
theorem dX5_kind_6 : decode cX5_kind 6 = .ok (.aload_n 0, 1) := by decide +kernel
theorem dX5_kind_7 : decode cX5_kind 7 = .ok (.getfield 102, 3) := by decide +kernel
theorem dX5_kind_10 : decode cX5_kind 10 = .ok (.iconst 1, 1) := by decide +kernel
theorem dX5_kind_11 : decode cX5_kind 11 = .ok (.isub, 1) := by decide +kernel
theorem dX5_kind_12 : decode cX5_kind 12 = .ok (.invokestatic 66, 3) := by decide +kernel
theorem dX5_kind_15 : decode cX5_kind 15 = .ok (.ifCond .ne 5, 3) := by decide +kernel
theorem dX5_kind_18 : decode cX5_kind 18 = .ok (.iconst (-1), 1) := by decide +kernel
theorem dX5_kind_19 : decode cX5_kind 19 = .ok (.ireturn, 1) := by decide +kernel
theorem dX5_kind_20 : decode cX5_kind 20 = .ok (.iload_n 2, 1) := by decide +kernel
theorem dX5_kind_21 : decode cX5_kind 21 = .ok (.ifCond .ne 12, 3) := by decide +kernel
theorem dX5_kind_24 : decode cX5_kind 24 = .ok (.aload_n 0, 1) := by decide +kernel
theorem dX5_kind_25 : decode cX5_kind 25 = .ok (.getfield 40, 3) := by decide +kernel
theorem dX5_kind_28 : decode cX5_kind 28 = .ok (.iload_n 1, 1) := by decide +kernel
theorem dX5_kind_29 : decode cX5_kind 29 = .ok (.iaload, 1) := by decide +kernel
theorem dX5_kind_30 : decode cX5_kind 30 = .ok (.goto 40, 3) := by decide +kernel
theorem dX5_kind_33 : decode cX5_kind 33 = .ok (.iload_n 2, 1) := by decide +kernel
theorem dX5_kind_34 : decode cX5_kind 34 = .ok (.iconst 1, 1) := by decide +kernel
theorem dX5_kind_35 : decode cX5_kind 35 = .ok (.if_icmp .ne 12, 3) := by decide +kernel
theorem dX5_kind_38 : decode cX5_kind 38 = .ok (.aload_n 0, 1) := by decide +kernel
theorem dX5_kind_39 : decode cX5_kind 39 = .ok (.getfield 43, 3) := by decide +kernel
theorem dX5_kind_42 : decode cX5_kind 42 = .ok (.iload_n 1, 1) := by decide +kernel
theorem dX5_kind_43 : decode cX5_kind 43 = .ok (.iaload, 1) := by decide +kernel
theorem dX5_kind_44 : decode cX5_kind 44 = .ok (.goto 26, 3) := by decide +kernel
theorem dX5_kind_47 : decode cX5_kind 47 = .ok (.iload_n 2, 1) := by decide +kernel
theorem dX5_kind_48 : decode cX5_kind 48 = .ok (.iconst 2, 1) := by decide +kernel
theorem dX5_kind_49 : decode cX5_kind 49 = .ok (.if_icmp .ne 19, 3) := by decide +kernel
theorem dX5_kind_52 : decode cX5_kind 52 = .ok (.aload_n 0, 1) := by decide +kernel
theorem dX5_kind_53 : decode cX5_kind 53 = .ok (.getfield 46, 3) := by decide +kernel
theorem dX5_kind_56 : decode cX5_kind 56 = .ok (.iload_n 1, 1) := by decide +kernel
theorem dX5_kind_57 : decode cX5_kind 57 = .ok (.iaload, 1) := by decide +kernel
theorem dX5_kind_58 : decode cX5_kind 58 = .ok (.aload_n 0, 1) := by decide +kernel
theorem dX5_kind_59 : decode cX5_kind 59 = .ok (.getfield 40, 3) := by decide +kernel
theorem dX5_kind_62 : decode cX5_kind 62 = .ok (.iload_n 1, 1) := by decide +kernel
theorem dX5_kind_63 : decode cX5_kind 63 = .ok (.iaload, 1) := by decide +kernel
theorem dX5_kind_64 : decode cX5_kind 64 = .ok (.idiv, 1) := by decide +kernel
theorem dX5_kind_65 : decode cX5_kind 65 = .ok (.goto 5, 3) := by decide +kernel
theorem dX5_kind_68 : decode cX5_kind 68 = .ok (.bipush (-2), 2) := by decide +kernel
theorem dX5_kind_70 : decode cX5_kind 70 = .ok (.ireturn, 1) := by decide +kernel
theorem dX5_dotsOf_0 : decode cX5_dotsOf 0 = .ok (.iconst 2, 1) := by decide +kernel
theorem dX5_dotsOf_1 : decode cX5_dotsOf 1 = .ok (.aload_n 0, 1) := by decide +kernel
theorem dX5_dotsOf_2 : decode cX5_dotsOf 2 = .ok (.getfield 46, 3) := by decide +kernel
theorem dX5_dotsOf_5 : decode cX5_dotsOf 5 = .ok (.iload_n 1, 1) := by decide +kernel
theorem dX5_dotsOf_6 : decode cX5_dotsOf 6 = .ok (.iaload, 1) := by decide +kernel
theorem dX5_dotsOf_7 : decode cX5_dotsOf 7 = .ok (.aload_n 0, 1) := by decide +kernel
theorem dX5_dotsOf_8 : decode cX5_dotsOf 8 = .ok (.getfield 40, 3) := by decide +kernel
theorem dX5_dotsOf_11 : decode cX5_dotsOf 11 = .ok (.iload_n 1, 1) := by decide +kernel
theorem dX5_dotsOf_12 : decode cX5_dotsOf 12 = .ok (.iaload, 1) := by decide +kernel
theorem dX5_dotsOf_13 : decode cX5_dotsOf 13 = .ok (.idiv, 1) := by decide +kernel
theorem dX5_dotsOf_14 : decode cX5_dotsOf 14 = .ok (.imul, 1) := by decide +kernel
theorem dX5_dotsOf_15 : decode cX5_dotsOf 15 = .ok (.iload_n 2, 1) := by decide +kernel
theorem dX5_dotsOf_16 : decode cX5_dotsOf 16 = .ok (.imul, 1) := by decide +kernel
theorem dX5_dotsOf_17 : decode cX5_dotsOf 17 = .ok (.sipush 1000, 3) := by decide +kernel
theorem dX5_dotsOf_20 : decode cX5_dotsOf 20 = .ok (.iadd, 1) := by decide +kernel
theorem dX5_dotsOf_21 : decode cX5_dotsOf 21 = .ok (.sipush 2000, 3) := by decide +kernel
theorem dX5_dotsOf_24 : decode cX5_dotsOf 24 = .ok (.idiv, 1) := by decide +kernel
theorem dX5_dotsOf_25 : decode cX5_dotsOf 25 = .ok (.istore_n 3, 1) := by decide +kernel
theorem dX5_dotsOf_26 : decode cX5_dotsOf 26 = .ok (.iload_n 3, 1) := by decide +kernel
theorem dX5_dotsOf_27 : decode cX5_dotsOf 27 = .ok (.iconst 1, 1) := by decide +kernel
theorem dX5_dotsOf_28 : decode cX5_dotsOf 28 = .ok (.if_icmp .ge 7, 3) := by decide +kernel
