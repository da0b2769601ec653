/-! ===== decode rows of the law's own methods ===== -/
theorem dL_cell_0 : decode cL_cell 0 = .ok (.iload_n 1, 1) := by decide +kernel
theorem dL_cell_1 : decode cL_cell 1 = .ok (.aload_n 0, 1) := by decide +kernel
theorem dL_cell_2 : decode cL_cell 2 = .ok (.arraylength, 1) := by decide +kernel
theorem dL_cell_3 : decode cL_cell 3 = .ok (.if_icmp .ge 9, 3) := by decide +kernel
theorem dL_cell_6 : decode cL_cell 6 = .ok (.aload_n 0, 1) := by decide +kernel
theorem dL_cell_7 : decode cL_cell 7 = .ok (.iload_n 1, 1) := by decide +kernel
theorem dL_cell_8 : decode cL_cell 8 = .ok (.iaload, 1) := by decide +kernel
theorem dL_cell_9 : decode cL_cell 9 = .ok (.goto 11, 3) := by decide +kernel
theorem dL_cell_12 : decode cL_cell 12 = .ok (.ldc 7, 2) := by decide +kernel
theorem dL_cell_14 : decode cL_cell 14 = .ok (.iload_n 1, 1) := by decide +kernel
theorem dL_cell_15 : decode cL_cell 15 = .ok (.sipush 1051, 3) := by decide +kernel
theorem dL_cell_18 : decode cL_cell 18 = .ok (.iadd, 1) := by decide +kernel
theorem dL_cell_19 : decode cL_cell 19 = .ok (.imul, 1) := by decide +kernel
theorem dL_cell_20 : decode cL_cell 20 = .ok (.ireturn, 1) := by decide +kernel
theorem dL_up_0 : decode cL_up 0 = .ok (.iload_n 0, 1) := by decide +kernel
theorem dL_up_1 : decode cL_up 1 = .ok (.ldc 8, 2) := by decide +kernel
theorem dL_up_3 : decode cL_up 3 = .ok (.iand, 1) := by decide +kernel
theorem dL_up_4 : decode cL_up 4 = .ok (.iload_n 1, 1) := by decide +kernel
theorem dL_up_5 : decode cL_up 5 = .ok (.irem, 1) := by decide +kernel
theorem dL_up_6 : decode cL_up 6 = .ok (.ireturn, 1) := by decide +kernel
theorem dL_number_0 : decode cL_number 0 = .ok (.iload_n 1, 1) := by decide +kernel
theorem dL_number_1 : decode cL_number 1 = .ok (.bipush 99, 2) := by decide +kernel
theorem dL_number_3 : decode cL_number 3 = .ok (.if_icmp .gt 7, 3) := by decide +kernel
theorem dL_number_6 : decode cL_number 6 = .ok (.iload_n 2, 1) := by decide +kernel
theorem dL_number_7 : decode cL_number 7 = .ok (.ifCond .eq 15, 3) := by decide +kernel
theorem dL_number_10 : decode cL_number 10 = .ok (.aload_n 0, 1) := by decide +kernel
theorem dL_number_11 : decode cL_number 11 = .ok (.bipush 48, 2) := by decide +kernel
theorem dL_number_13 : decode cL_number 13 = .ok (.iload_n 1, 1) := by decide +kernel
theorem dL_number_14 : decode cL_number 14 = .ok (.bipush 100, 2) := by decide +kernel
theorem dL_number_16 : decode cL_number 16 = .ok (.idiv, 1) := by decide +kernel
theorem dL_number_17 : decode cL_number 17 = .ok (.iadd, 1) := by decide +kernel
theorem dL_number_18 : decode cL_number 18 = .ok (.invokevirtual 9, 3) := by decide +kernel
theorem dL_number_21 : decode cL_number 21 = .ok (.pop, 1) := by decide +kernel
theorem dL_number_22 : decode cL_number 22 = .ok (.iload_n 1, 1) := by decide +kernel
theorem dL_number_23 : decode cL_number 23 = .ok (.bipush 9, 2) := by decide +kernel
theorem dL_number_25 : decode cL_number 25 = .ok (.if_icmp .gt 7, 3) := by decide +kernel
theorem dL_number_28 : decode cL_number 28 = .ok (.iload_n 2, 1) := by decide +kernel
theorem dL_number_29 : decode cL_number 29 = .ok (.ifCond .eq 18, 3) := by decide +kernel
theorem dL_number_32 : decode cL_number 32 = .ok (.aload_n 0, 1) := by decide +kernel
theorem dL_number_33 : decode cL_number 33 = .ok (.bipush 48, 2) := by decide +kernel
theorem dL_number_35 : decode cL_number 35 = .ok (.iload_n 1, 1) := by decide +kernel
theorem dL_number_36 : decode cL_number 36 = .ok (.bipush 10, 2) := by decide +kernel
theorem dL_number_38 : decode cL_number 38 = .ok (.idiv, 1) := by decide +kernel
theorem dL_number_39 : decode cL_number 39 = .ok (.bipush 10, 2) := by decide +kernel
theorem dL_number_41 : decode cL_number 41 = .ok (.irem, 1) := by decide +kernel
theorem dL_number_42 : decode cL_number 42 = .ok (.iadd, 1) := by decide +kernel
theorem dL_number_43 : decode cL_number 43 = .ok (.invokevirtual 9, 3) := by decide +kernel
theorem dL_number_46 : decode cL_number 46 = .ok (.pop, 1) := by decide +kernel
theorem dL_number_47 : decode cL_number 47 = .ok (.aload_n 0, 1) := by decide +kernel
theorem dL_number_48 : decode cL_number 48 = .ok (.bipush 48, 2) := by decide +kernel
theorem dL_number_50 : decode cL_number 50 = .ok (.iload_n 1, 1) := by decide +kernel
theorem dL_number_51 : decode cL_number 51 = .ok (.bipush 10, 2) := by decide +kernel
theorem dL_number_53 : decode cL_number 53 = .ok (.irem, 1) := by decide +kernel
theorem dL_number_54 : decode cL_number 54 = .ok (.iadd, 1) := by decide +kernel
theorem dL_number_55 : decode cL_number 55 = .ok (.invokevirtual 9, 3) := by decide +kernel
theorem dL_number_58 : decode cL_number 58 = .ok (.pop, 1) := by decide +kernel
theorem dL_number_59 : decode cL_number 59 = .ok (.return_, 1) := by decide +kernel
theorem dL_edge_0 : decode cL_edge 0 = .ok (.iconst 4, 1) := by decide +kernel
theorem dL_edge_1 : decode cL_edge 1 = .ok (.aload_n 2, 1) := by decide +kernel
theorem dL_edge_2 : decode cL_edge 2 = .ok (.iconst 0, 1) := by decide +kernel
theorem dL_edge_3 : decode cL_edge 3 = .ok (.iaload, 1) := by decide +kernel
theorem dL_edge_4 : decode cL_edge 4 = .ok (.imul, 1) := by decide +kernel
theorem dL_edge_5 : decode cL_edge 5 = .ok (.istore 4, 2) := by decide +kernel
theorem dL_edge_7 : decode cL_edge 7 = .ok (.aload_n 1, 1) := by decide +kernel
theorem dL_edge_8 : decode cL_edge 8 = .ok (.iload 4, 2) := by decide +kernel
theorem dL_edge_10 : decode cL_edge 10 = .ok (.iload_n 3, 1) := by decide +kernel
theorem dL_edge_11 : decode cL_edge 11 = .ok (.iconst 1, 1) := by decide +kernel
theorem dL_edge_12 : decode cL_edge 12 = .ok (.iand, 1) := by decide +kernel
theorem dL_edge_13 : decode cL_edge 13 = .ok (.iastore, 1) := by decide +kernel
theorem dL_edge_14 : decode cL_edge 14 = .ok (.aload_n 1, 1) := by decide +kernel
theorem dL_edge_15 : decode cL_edge 15 = .ok (.iload 4, 2) := by decide +kernel
theorem dL_edge_17 : decode cL_edge 17 = .ok (.iconst 1, 1) := by decide +kernel
theorem dL_edge_18 : decode cL_edge 18 = .ok (.iadd, 1) := by decide +kernel
theorem dL_edge_19 : decode cL_edge 19 = .ok (.iload_n 3, 1) := by decide +kernel
theorem dL_edge_20 : decode cL_edge 20 = .ok (.iconst 1, 1) := by decide +kernel
theorem dL_edge_21 : decode cL_edge 21 = .ok (.ishr, 1) := by decide +kernel
theorem dL_edge_22 : decode cL_edge 22 = .ok (.iconst 1, 1) := by decide +kernel
theorem dL_edge_23 : decode cL_edge 23 = .ok (.iand, 1) := by decide +kernel
theorem dL_edge_24 : decode cL_edge 24 = .ok (.ifCond .ne 15, 3) := by decide +kernel
theorem dL_edge_27 : decode cL_edge 27 = .ok (.iload_n 3, 1) := by decide +kernel
theorem dL_edge_28 : decode cL_edge 28 = .ok (.iconst 2, 1) := by decide +kernel
theorem dL_edge_29 : decode cL_edge 29 = .ok (.ishr, 1) := by decide +kernel
theorem dL_edge_30 : decode cL_edge 30 = .ok (.sipush 1000, 3) := by decide +kernel
theorem dL_edge_33 : decode cL_edge 33 = .ok (.invokestatic 15, 3) := by decide +kernel
theorem dL_edge_36 : decode cL_edge 36 = .ok (.goto 14, 3) := by decide +kernel
theorem dL_edge_39 : decode cL_edge 39 = .ok (.bipush 40, 2) := by decide +kernel
theorem dL_edge_41 : decode cL_edge 41 = .ok (.iload_n 3, 1) := by decide +kernel
theorem dL_edge_42 : decode cL_edge 42 = .ok (.iconst 2, 1) := by decide +kernel
theorem dL_edge_43 : decode cL_edge 43 = .ok (.ishr, 1) := by decide +kernel
theorem dL_edge_44 : decode cL_edge 44 = .ok (.bipush 25, 2) := by decide +kernel
theorem dL_edge_46 : decode cL_edge 46 = .ok (.invokestatic 15, 3) := by decide +kernel
theorem dL_edge_49 : decode cL_edge 49 = .ok (.imul, 1) := by decide +kernel
theorem dL_edge_50 : decode cL_edge 50 = .ok (.iastore, 1) := by decide +kernel
theorem dL_edge_51 : decode cL_edge 51 = .ok (.aload_n 1, 1) := by decide +kernel
theorem dL_edge_52 : decode cL_edge 52 = .ok (.iload 4, 2) := by decide +kernel
theorem dL_edge_54 : decode cL_edge 54 = .ok (.iconst 2, 1) := by decide +kernel
theorem dL_edge_55 : decode cL_edge 55 = .ok (.iadd, 1) := by decide +kernel
theorem dL_edge_56 : decode cL_edge 56 = .ok (.iload_n 3, 1) := by decide +kernel
theorem dL_edge_57 : decode cL_edge 57 = .ok (.iconst 3, 1) := by decide +kernel
theorem dL_edge_58 : decode cL_edge 58 = .ok (.ishr, 1) := by decide +kernel
theorem dL_edge_59 : decode cL_edge 59 = .ok (.iconst 3, 1) := by decide +kernel
theorem dL_edge_60 : decode cL_edge 60 = .ok (.iand, 1) := by decide +kernel
theorem dL_edge_61 : decode cL_edge 61 = .ok (.iconst 2, 1) := by decide +kernel
theorem dL_edge_62 : decode cL_edge 62 = .ok (.if_icmp .ge 15, 3) := by decide +kernel
theorem dL_edge_65 : decode cL_edge 65 = .ok (.iload_n 3, 1) := by decide +kernel
theorem dL_edge_66 : decode cL_edge 66 = .ok (.iconst 4, 1) := by decide +kernel
theorem dL_edge_67 : decode cL_edge 67 = .ok (.ishr, 1) := by decide +kernel
theorem dL_edge_68 : decode cL_edge 68 = .ok (.sipush 300, 3) := by decide +kernel
theorem dL_edge_71 : decode cL_edge 71 = .ok (.invokestatic 15, 3) := by decide +kernel
theorem dL_edge_74 : decode cL_edge 74 = .ok (.goto 12, 3) := by decide +kernel
theorem dL_edge_77 : decode cL_edge 77 = .ok (.iload_n 3, 1) := by decide +kernel
theorem dL_edge_78 : decode cL_edge 78 = .ok (.iconst 4, 1) := by decide +kernel
theorem dL_edge_79 : decode cL_edge 79 = .ok (.ishr, 1) := by decide +kernel
theorem dL_edge_80 : decode cL_edge 80 = .ok (.sipush 999, 3) := by decide +kernel
theorem dL_edge_83 : decode cL_edge 83 = .ok (.invokestatic 15, 3) := by decide +kernel
theorem dL_edge_86 : decode cL_edge 86 = .ok (.iastore, 1) := by decide +kernel
theorem dL_edge_87 : decode cL_edge 87 = .ok (.aload_n 1, 1) := by decide +kernel
theorem dL_edge_88 : decode cL_edge 88 = .ok (.iload 4, 2) := by decide +kernel
theorem dL_edge_90 : decode cL_edge 90 = .ok (.iconst 3, 1) := by decide +kernel
theorem dL_edge_91 : decode cL_edge 91 = .ok (.iadd, 1) := by decide +kernel
theorem dL_edge_92 : decode cL_edge 92 = .ok (.aload_n 1, 1) := by decide +kernel
theorem dL_edge_93 : decode cL_edge 93 = .ok (.iload 4, 2) := by decide +kernel
theorem dL_edge_95 : decode cL_edge 95 = .ok (.iconst 2, 1) := by decide +kernel
theorem dL_edge_96 : decode cL_edge 96 = .ok (.iadd, 1) := by decide +kernel
theorem dL_edge_97 : decode cL_edge 97 = .ok (.iaload, 1) := by decide +kernel
theorem dL_edge_98 : decode cL_edge 98 = .ok (.iconst 1, 1) := by decide +kernel
theorem dL_edge_99 : decode cL_edge 99 = .ok (.iadd, 1) := by decide +kernel
theorem dL_edge_100 : decode cL_edge 100 = .ok (.iload_n 3, 1) := by decide +kernel
theorem dL_edge_101 : decode cL_edge 101 = .ok (.bipush 9, 2) := by decide +kernel
theorem dL_edge_103 : decode cL_edge 103 = .ok (.ishr, 1) := by decide +kernel
theorem dL_edge_104 : decode cL_edge 104 = .ok (.sipush 999, 3) := by decide +kernel
theorem dL_edge_107 : decode cL_edge 107 = .ok (.aload_n 1, 1) := by decide +kernel
theorem dL_edge_108 : decode cL_edge 108 = .ok (.iload 4, 2) := by decide +kernel
theorem dL_edge_110 : decode cL_edge 110 = .ok (.iconst 2, 1) := by decide +kernel
theorem dL_edge_111 : decode cL_edge 111 = .ok (.iadd, 1) := by decide +kernel
theorem dL_edge_112 : decode cL_edge 112 = .ok (.iaload, 1) := by decide +kernel
theorem dL_edge_113 : decode cL_edge 113 = .ok (.isub, 1) := by decide +kernel
theorem dL_edge_114 : decode cL_edge 114 = .ok (.invokestatic 15, 3) := by decide +kernel
theorem dL_edge_117 : decode cL_edge 117 = .ok (.iadd, 1) := by decide +kernel
theorem dL_edge_118 : decode cL_edge 118 = .ok (.iastore, 1) := by decide +kernel
