/-! ===== decode rows of the law's own methods ===== -/
theorem dL_rules_60 : decode cL_rules 60 = .ok (.bipush 16, 2) := by decide +kernel
theorem dL_rules_62 : decode cL_rules 62 = .ok (.ishr, 1) := by decide +kernel
theorem dL_rules_63 : decode cL_rules 63 = .ok (.iconst 3, 1) := by decide +kernel
theorem dL_rules_64 : decode cL_rules 64 = .ok (.iand, 1) := by decide +kernel
theorem dL_rules_65 : decode cL_rules 65 = .ok (.goto 23, 3) := by decide +kernel
theorem dL_rules_68 : decode cL_rules 68 = .ok (.iload_n 2, 1) := by decide +kernel
theorem dL_rules_69 : decode cL_rules 69 = .ok (.bipush 18, 2) := by decide +kernel
theorem dL_rules_71 : decode cL_rules 71 = .ok (.ishr, 1) := by decide +kernel
theorem dL_rules_72 : decode cL_rules 72 = .ok (.bipush 7, 2) := by decide +kernel
theorem dL_rules_74 : decode cL_rules 74 = .ok (.iand, 1) := by decide +kernel
theorem dL_rules_75 : decode cL_rules 75 = .ok (.ifCond .ne 12, 3) := by decide +kernel
theorem dL_rules_78 : decode cL_rules 78 = .ok (.iload_n 2, 1) := by decide +kernel
theorem dL_rules_79 : decode cL_rules 79 = .ok (.bipush 21, 2) := by decide +kernel
theorem dL_rules_81 : decode cL_rules 81 = .ok (.ishr, 1) := by decide +kernel
theorem dL_rules_82 : decode cL_rules 82 = .ok (.iconst 3, 1) := by decide +kernel
theorem dL_rules_83 : decode cL_rules 83 = .ok (.iand, 1) := by decide +kernel
theorem dL_rules_84 : decode cL_rules 84 = .ok (.goto 4, 3) := by decide +kernel
theorem dL_rules_87 : decode cL_rules 87 = .ok (.iconst 0, 1) := by decide +kernel
theorem dL_rules_88 : decode cL_rules 88 = .ok (.istore 4, 2) := by decide +kernel
theorem dL_rules_90 : decode cL_rules 90 = .ok (.aload_n 0, 1) := by decide +kernel
theorem dL_rules_91 : decode cL_rules 91 = .ok (.iload_n 3, 1) := by decide +kernel
theorem dL_rules_92 : decode cL_rules 92 = .ok (.iload 4, 2) := by decide +kernel
theorem dL_rules_94 : decode cL_rules 94 = .ok (.invokevirtual 32, 3) := by decide +kernel
theorem dL_rules_97 : decode cL_rules 97 = .ok (.aload_n 1, 1) := by decide +kernel
theorem dL_rules_98 : decode cL_rules 98 = .ok (.iconst 1, 1) := by decide +kernel
theorem dL_rules_99 : decode cL_rules 99 = .ok (.iload_n 3, 1) := by decide +kernel
theorem dL_rules_100 : decode cL_rules 100 = .ok (.iadd, 1) := by decide +kernel
theorem dL_rules_101 : decode cL_rules 101 = .ok (.iaload, 1) := by decide +kernel
theorem dL_rules_102 : decode cL_rules 102 = .ok (.if_icmp .eq 5, 3) := by decide +kernel
theorem dL_rules_105 : decode cL_rules 105 = .ok (.iconst 0, 1) := by decide +kernel
theorem dL_rules_106 : decode cL_rules 106 = .ok (.ireturn, 1) := by decide +kernel
theorem dL_rules_107 : decode cL_rules 107 = .ok (.aload_n 1, 1) := by decide +kernel
theorem dL_rules_108 : decode cL_rules 108 = .ok (.iconst 1, 1) := by decide +kernel
theorem dL_rules_109 : decode cL_rules 109 = .ok (.iload_n 3, 1) := by decide +kernel
theorem dL_rules_110 : decode cL_rules 110 = .ok (.iadd, 1) := by decide +kernel
theorem dL_rules_111 : decode cL_rules 111 = .ok (.iload 4, 2) := by decide +kernel
theorem dL_rules_113 : decode cL_rules 113 = .ok (.iastore, 1) := by decide +kernel
theorem dL_rules_114 : decode cL_rules 114 = .ok (.iinc 3 1, 3) := by decide +kernel
theorem dL_rules_117 : decode cL_rules 117 = .ok (.goto (-115), 3) := by decide +kernel
theorem dL_rules_120 : decode cL_rules 120 = .ok (.iconst 1, 1) := by decide +kernel
theorem dL_rules_121 : decode cL_rules 121 = .ok (.ireturn, 1) := by decide +kernel
theorem dL_all_0 : decode cL_all 0 = .ok (.aload 4, 2) := by decide +kernel
theorem dL_all_2 : decode cL_all 2 = .ok (.iconst 1, 1) := by decide +kernel
theorem dL_all_3 : decode cL_all 3 = .ok (.bipush 20, 2) := by decide +kernel
theorem dL_all_5 : decode cL_all 5 = .ok (.iastore, 1) := by decide +kernel
theorem dL_all_6 : decode cL_all 6 = .ok (.aload 4, 2) := by decide +kernel
theorem dL_all_8 : decode cL_all 8 = .ok (.iconst 2, 1) := by decide +kernel
theorem dL_all_9 : decode cL_all 9 = .ok (.iconst 1, 1) := by decide +kernel
theorem dL_all_10 : decode cL_all 10 = .ok (.iastore, 1) := by decide +kernel
theorem dL_all_11 : decode cL_all 11 = .ok (.aload 4, 2) := by decide +kernel
theorem dL_all_13 : decode cL_all 13 = .ok (.iconst 3, 1) := by decide +kernel
theorem dL_all_14 : decode cL_all 14 = .ok (.iconst 1, 1) := by decide +kernel
theorem dL_all_15 : decode cL_all 15 = .ok (.iastore, 1) := by decide +kernel
theorem dL_all_16 : decode cL_all 16 = .ok (.aload_n 1, 1) := by decide +kernel
theorem dL_all_17 : decode cL_all 17 = .ok (.iload_n 2, 1) := by decide +kernel
theorem dL_all_18 : decode cL_all 18 = .ok (.invokestatic 35, 3) := by decide +kernel
theorem dL_all_21 : decode cL_all 21 = .ok (.iconst 5, 1) := by decide +kernel
theorem dL_all_22 : decode cL_all 22 = .ok (.invokestatic 15, 3) := by decide +kernel
theorem dL_all_25 : decode cL_all 25 = .ok (.istore 5, 2) := by decide +kernel
theorem dL_all_27 : decode cL_all 27 = .ok (.aload_n 1, 1) := by decide +kernel
theorem dL_all_28 : decode cL_all 28 = .ok (.iload_n 2, 1) := by decide +kernel
theorem dL_all_29 : decode cL_all 29 = .ok (.invokestatic 35, 3) := by decide +kernel
theorem dL_all_32 : decode cL_all 32 = .ok (.iconst 4, 1) := by decide +kernel
theorem dL_all_33 : decode cL_all 33 = .ok (.ishr, 1) := by decide +kernel
theorem dL_all_34 : decode cL_all 34 = .ok (.iconst 5, 1) := by decide +kernel
theorem dL_all_35 : decode cL_all 35 = .ok (.invokestatic 15, 3) := by decide +kernel
theorem dL_all_38 : decode cL_all 38 = .ok (.istore 6, 2) := by decide +kernel
theorem dL_all_40 : decode cL_all 40 = .ok (.iconst 0, 1) := by decide +kernel
theorem dL_all_41 : decode cL_all 41 = .ok (.istore 7, 2) := by decide +kernel
theorem dL_all_43 : decode cL_all 43 = .ok (.iload 7, 2) := by decide +kernel
theorem dL_all_45 : decode cL_all 45 = .ok (.iload 5, 2) := by decide +kernel
theorem dL_all_47 : decode cL_all 47 = .ok (.if_icmp .ge 31, 3) := by decide +kernel
theorem dL_all_50 : decode cL_all 50 = .ok (.aload_n 0, 1) := by decide +kernel
theorem dL_all_51 : decode cL_all 51 = .ok (.aload_n 3, 1) := by decide +kernel
theorem dL_all_52 : decode cL_all 52 = .ok (.aload 4, 2) := by decide +kernel
theorem dL_all_54 : decode cL_all 54 = .ok (.aload_n 1, 1) := by decide +kernel
theorem dL_all_55 : decode cL_all 55 = .ok (.iload_n 2, 1) := by decide +kernel
theorem dL_all_56 : decode cL_all 56 = .ok (.iconst 1, 1) := by decide +kernel
theorem dL_all_57 : decode cL_all 57 = .ok (.iadd, 1) := by decide +kernel
theorem dL_all_58 : decode cL_all 58 = .ok (.iload 7, 2) := by decide +kernel
theorem dL_all_60 : decode cL_all 60 = .ok (.iadd, 1) := by decide +kernel
theorem dL_all_61 : decode cL_all 61 = .ok (.invokestatic 35, 3) := by decide +kernel
theorem dL_all_64 : decode cL_all 64 = .ok (.invokestatic 39, 3) := by decide +kernel
theorem dL_all_67 : decode cL_all 67 = .ok (.ifCond .ne 5, 3) := by decide +kernel
theorem dL_all_70 : decode cL_all 70 = .ok (.iconst 0, 1) := by decide +kernel
theorem dL_all_71 : decode cL_all 71 = .ok (.ireturn, 1) := by decide +kernel
theorem dL_all_72 : decode cL_all 72 = .ok (.iinc 7 1, 3) := by decide +kernel
theorem dL_all_75 : decode cL_all 75 = .ok (.goto (-32), 3) := by decide +kernel
theorem dL_all_78 : decode cL_all 78 = .ok (.iconst 0, 1) := by decide +kernel
theorem dL_all_79 : decode cL_all 79 = .ok (.istore 7, 2) := by decide +kernel
theorem dL_all_81 : decode cL_all 81 = .ok (.iload 7, 2) := by decide +kernel
theorem dL_all_83 : decode cL_all 83 = .ok (.iload 6, 2) := by decide +kernel
theorem dL_all_85 : decode cL_all 85 = .ok (.if_icmp .ge 40, 3) := by decide +kernel
theorem dL_all_88 : decode cL_all 88 = .ok (.aload_n 0, 1) := by decide +kernel
theorem dL_all_89 : decode cL_all 89 = .ok (.aload_n 3, 1) := by decide +kernel
theorem dL_all_90 : decode cL_all 90 = .ok (.aload 4, 2) := by decide +kernel
theorem dL_all_92 : decode cL_all 92 = .ok (.aload_n 1, 1) := by decide +kernel
theorem dL_all_93 : decode cL_all 93 = .ok (.iload_n 2, 1) := by decide +kernel
theorem dL_all_94 : decode cL_all 94 = .ok (.iconst 5, 1) := by decide +kernel
theorem dL_all_95 : decode cL_all 95 = .ok (.iadd, 1) := by decide +kernel
theorem dL_all_96 : decode cL_all 96 = .ok (.iload 7, 2) := by decide +kernel
theorem dL_all_98 : decode cL_all 98 = .ok (.iconst 3, 1) := by decide +kernel
theorem dL_all_99 : decode cL_all 99 = .ok (.irem, 1) := by decide +kernel
theorem dL_all_100 : decode cL_all 100 = .ok (.iadd, 1) := by decide +kernel
theorem dL_all_101 : decode cL_all 101 = .ok (.invokestatic 35, 3) := by decide +kernel
theorem dL_all_104 : decode cL_all 104 = .ok (.iload 7, 2) := by decide +kernel
theorem dL_all_106 : decode cL_all 106 = .ok (.iconst 3, 1) := by decide +kernel
theorem dL_all_107 : decode cL_all 107 = .ok (.idiv, 1) := by decide +kernel
theorem dL_all_108 : decode cL_all 108 = .ok (.iconst 5, 1) := by decide +kernel
theorem dL_all_109 : decode cL_all 109 = .ok (.imul, 1) := by decide +kernel
theorem dL_all_110 : decode cL_all 110 = .ok (.ishr, 1) := by decide +kernel
theorem dL_all_111 : decode cL_all 111 = .ok (.invokestatic 43, 3) := by decide +kernel
theorem dL_all_114 : decode cL_all 114 = .ok (.ifCond .ne 5, 3) := by decide +kernel
theorem dL_all_117 : decode cL_all 117 = .ok (.iconst 0, 1) := by decide +kernel
theorem dL_all_118 : decode cL_all 118 = .ok (.ireturn, 1) := by decide +kernel
theorem dL_all_119 : decode cL_all 119 = .ok (.iinc 7 1, 3) := by decide +kernel
theorem dL_all_122 : decode cL_all 122 = .ok (.goto (-41), 3) := by decide +kernel
theorem dL_all_125 : decode cL_all 125 = .ok (.aload_n 0, 1) := by decide +kernel
theorem dL_all_126 : decode cL_all 126 = .ok (.aload 4, 2) := by decide +kernel
theorem dL_all_128 : decode cL_all 128 = .ok (.aload_n 1, 1) := by decide +kernel
theorem dL_all_129 : decode cL_all 129 = .ok (.iload_n 2, 1) := by decide +kernel
theorem dL_all_130 : decode cL_all 130 = .ok (.bipush 8, 2) := by decide +kernel
theorem dL_all_132 : decode cL_all 132 = .ok (.iadd, 1) := by decide +kernel
theorem dL_all_133 : decode cL_all 133 = .ok (.invokestatic 35, 3) := by decide +kernel
theorem dL_all_136 : decode cL_all 136 = .ok (.invokestatic 45, 3) := by decide +kernel
theorem dL_all_139 : decode cL_all 139 = .ok (.ireturn, 1) := by decide +kernel
