theorem dX5_next_6 : decode cX5_next 6 = .ok (.iload_n 2, 1) := by decide +kernel
theorem dX5_next_7 : decode cX5_next 7 = .ok (.aload_n 0, 1) := by decide +kernel
theorem dX5_next_8 : decode cX5_next 8 = .ok (.getfield 58, 3) := by decide +kernel
theorem dX5_next_11 : decode cX5_next 11 = .ok (.if_icmp .ge 42, 3) := by decide +kernel
theorem dX5_next_14 : decode cX5_next 14 = .ok (.aload_n 1, 1) := by decide +kernel
theorem dX5_next_15 : decode cX5_next 15 = .ok (.aload_n 0, 1) := by decide +kernel
theorem dX5_next_16 : decode cX5_next 16 = .ok (.getfield 13, 3) := by decide +kernel
theorem dX5_next_19 : decode cX5_next 19 = .ok (.iload_n 2, 1) := by decide +kernel
theorem dX5_next_20 : decode cX5_next 20 = .ok (.iaload, 1) := by decide +kernel
theorem dX5_next_21 : decode cX5_next 21 = .ok (.aload_n 1, 1) := by decide +kernel
theorem dX5_next_22 : decode cX5_next 22 = .ok (.aload_n 0, 1) := by decide +kernel
theorem dX5_next_23 : decode cX5_next 23 = .ok (.getfield 13, 3) := by decide +kernel
theorem dX5_next_26 : decode cX5_next 26 = .ok (.iload_n 2, 1) := by decide +kernel
theorem dX5_next_27 : decode cX5_next 27 = .ok (.iaload, 1) := by decide +kernel
theorem dX5_next_28 : decode cX5_next 28 = .ok (.baload, 1) := by decide +kernel
theorem dX5_next_29 : decode cX5_next 29 = .ok (.ifCond .ne 12, 3) := by decide +kernel
theorem dX5_next_32 : decode cX5_next 32 = .ok (.aload_n 0, 1) := by decide +kernel
theorem dX5_next_33 : decode cX5_next 33 = .ok (.getfield 19, 3) := by decide +kernel
theorem dX5_next_36 : decode cX5_next 36 = .ok (.iload_n 2, 1) := by decide +kernel
theorem dX5_next_37 : decode cX5_next 37 = .ok (.iaload, 1) := by decide +kernel
theorem dX5_next_38 : decode cX5_next 38 = .ok (.ifCond .le 7, 3) := by decide +kernel
theorem dX5_next_41 : decode cX5_next 41 = .ok (.iconst 1, 1) := by decide +kernel
theorem dX5_next_42 : decode cX5_next 42 = .ok (.goto 4, 3) := by decide +kernel
theorem dX5_next_45 : decode cX5_next 45 = .ok (.iconst 0, 1) := by decide +kernel
theorem dX5_next_46 : decode cX5_next 46 = .ok (.bastore, 1) := by decide +kernel
theorem dX5_next_47 : decode cX5_next 47 = .ok (.iinc 2 1, 3) := by decide +kernel
theorem dX5_next_50 : decode cX5_next 50 = .ok (.goto (-44), 3) := by decide +kernel
theorem dX5_next_53 : decode cX5_next 53 = .ok (.iconst 0, 1) := by decide +kernel
theorem dX5_next_54 : decode cX5_next 54 = .ok (.istore_n 2, 1) := by decide +kernel
theorem dX5_next_55 : decode cX5_next 55 = .ok (.iload_n 2, 1) := by decide +kernel
theorem dX5_next_56 : decode cX5_next 56 = .ok (.iconst 2, 1) := by decide +kernel
theorem dX5_next_57 : decode cX5_next 57 = .ok (.if_icmp .ge 90, 3) := by decide +kernel
theorem dX5_next_60 : decode cX5_next 60 = .ok (.aload_n 0, 1) := by decide +kernel
theorem dX5_next_61 : decode cX5_next 61 = .ok (.getfield 32, 3) := by decide +kernel
theorem dX5_next_64 : decode cX5_next 64 = .ok (.iload_n 2, 1) := by decide +kernel
theorem dX5_next_65 : decode cX5_next 65 = .ok (.ifCond .ne 7, 3) := by decide +kernel
theorem dX5_next_68 : decode cX5_next 68 = .ok (.iconst 1, 1) := by decide +kernel
theorem dX5_next_69 : decode cX5_next 69 = .ok (.goto 4, 3) := by decide +kernel
theorem dX5_next_72 : decode cX5_next 72 = .ok (.iconst 0, 1) := by decide +kernel
theorem dX5_next_73 : decode cX5_next 73 = .ok (.if_icmp .ne 7, 3) := by decide +kernel
theorem dX5_next_76 : decode cX5_next 76 = .ok (.iconst 1, 1) := by decide +kernel
theorem dX5_next_77 : decode cX5_next 77 = .ok (.goto 4, 3) := by decide +kernel
theorem dX5_next_80 : decode cX5_next 80 = .ok (.iconst 0, 1) := by decide +kernel
theorem dX5_next_81 : decode cX5_next 81 = .ok (.istore_n 3, 1) := by decide +kernel
theorem dX5_next_82 : decode cX5_next 82 = .ok (.iload_n 3, 1) := by decide +kernel
theorem dX5_next_83 : decode cX5_next 83 = .ok (.ifCond .eq 12, 3) := by decide +kernel
theorem dX5_next_86 : decode cX5_next 86 = .ok (.aload_n 0, 1) := by decide +kernel
theorem dX5_next_87 : decode cX5_next 87 = .ok (.getfield 29, 3) := by decide +kernel
theorem dX5_next_90 : decode cX5_next 90 = .ok (.iconst 1, 1) := by decide +kernel
theorem dX5_next_91 : decode cX5_next 91 = .ok (.iadd, 1) := by decide +kernel
theorem dX5_next_92 : decode cX5_next 92 = .ok (.goto 9, 3) := by decide +kernel
theorem dX5_next_95 : decode cX5_next 95 = .ok (.aload_n 0, 1) := by decide +kernel
theorem dX5_next_96 : decode cX5_next 96 = .ok (.getfield 29, 3) := by decide +kernel
theorem dX5_next_99 : decode cX5_next 99 = .ok (.iconst 1, 1) := by decide +kernel
theorem dX5_next_100 : decode cX5_next 100 = .ok (.isub, 1) := by decide +kernel
theorem dX5_next_101 : decode cX5_next 101 = .ok (.istore 4, 2) := by decide +kernel
theorem dX5_next_103 : decode cX5_next 103 = .ok (.iload 4, 2) := by decide +kernel
theorem dX5_next_105 : decode cX5_next 105 = .ok (.ifCond .lt 36, 3) := by decide +kernel
theorem dX5_next_108 : decode cX5_next 108 = .ok (.iload 4, 2) := by decide +kernel
theorem dX5_next_110 : decode cX5_next 110 = .ok (.iconst 3, 1) := by decide +kernel
theorem dX5_next_111 : decode cX5_next 111 = .ok (.if_icmp .ge 30, 3) := by decide +kernel
theorem dX5_next_114 : decode cX5_next 114 = .ok (.aload_n 1, 1) := by decide +kernel
theorem dX5_next_115 : decode cX5_next 115 = .ok (.iload 4, 2) := by decide +kernel
theorem dX5_next_117 : decode cX5_next 117 = .ok (.baload, 1) := by decide +kernel
theorem dX5_next_118 : decode cX5_next 118 = .ok (.ifCond .eq 6, 3) := by decide +kernel
theorem dX5_next_121 : decode cX5_next 121 = .ok (.iload 4, 2) := by decide +kernel
theorem dX5_next_123 : decode cX5_next 123 = .ok (.ireturn, 1) := by decide +kernel
theorem dX5_next_124 : decode cX5_next 124 = .ok (.iload 4, 2) := by decide +kernel
theorem dX5_next_126 : decode cX5_next 126 = .ok (.iload_n 3, 1) := by decide +kernel
theorem dX5_next_127 : decode cX5_next 127 = .ok (.ifCond .eq 7, 3) := by decide +kernel
theorem dX5_next_130 : decode cX5_next 130 = .ok (.iconst 1, 1) := by decide +kernel
theorem dX5_next_131 : decode cX5_next 131 = .ok (.goto 4, 3) := by decide +kernel
theorem dX5_next_134 : decode cX5_next 134 = .ok (.iconst (-1), 1) := by decide +kernel
theorem dX5_next_135 : decode cX5_next 135 = .ok (.iadd, 1) := by decide +kernel
theorem dX5_next_136 : decode cX5_next 136 = .ok (.istore 4, 2) := by decide +kernel
theorem dX5_next_138 : decode cX5_next 138 = .ok (.goto (-35), 3) := by decide +kernel
theorem dX5_next_141 : decode cX5_next 141 = .ok (.iinc 2 1, 3) := by decide +kernel
theorem dX5_next_144 : decode cX5_next 144 = .ok (.goto (-89), 3) := by decide +kernel
theorem dX5_next_147 : decode cX5_next 147 = .ok (.iconst (-1), 1) := by decide +kernel
theorem dX5_next_148 : decode cX5_next 148 = .ok (.ireturn, 1) := by decide +kernel
theorem dJ9_abs_0f7a4_0 : decode cJ9_abs_0f7a4 0 = .ok (.iload_n 0, 1) := by decide +kernel
theorem dJ9_abs_0f7a4_1 : decode cJ9_abs_0f7a4 1 = .ok (.ifCond .ge 8, 3) := by decide +kernel
theorem dJ9_abs_0f7a4_4 : decode cJ9_abs_0f7a4 4 = .ok (.iload_n 0, 1) := by decide +kernel
theorem dJ9_abs_0f7a4_5 : decode cJ9_abs_0f7a4 5 = .ok (.ineg, 1) := by decide +kernel
theorem dJ9_abs_0f7a4_6 : decode cJ9_abs_0f7a4 6 = .ok (.goto 4, 3) := by decide +kernel
theorem dJ9_abs_0f7a4_9 : decode cJ9_abs_0f7a4 9 = .ok (.iload_n 0, 1) := by decide +kernel
theorem dJ9_abs_0f7a4_10 : decode cJ9_abs_0f7a4 10 = .ok (.ireturn, 1) := by decide +kernel
theorem dJ9_max_7cf53_0 : decode cJ9_max_7cf53 0 = .ok (.iload_n 0, 1) := by decide +kernel
theorem dJ9_max_7cf53_1 : decode cJ9_max_7cf53 1 = .ok (.iload_n 1, 1) := by decide +kernel
theorem dJ9_max_7cf53_2 : decode cJ9_max_7cf53 2 = .ok (.if_icmp .lt 7, 3) := by decide +kernel
theorem dJ9_max_7cf53_5 : decode cJ9_max_7cf53 5 = .ok (.iload_n 0, 1) := by decide +kernel
theorem dJ9_max_7cf53_6 : decode cJ9_max_7cf53 6 = .ok (.goto 4, 3) := by decide +kernel
theorem dJ9_max_7cf53_9 : decode cJ9_max_7cf53 9 = .ok (.iload_n 1, 1) := by decide +kernel
theorem dJ9_max_7cf53_10 : decode cJ9_max_7cf53 10 = .ok (.ireturn, 1) := by decide +kernel
theorem dJ9_min_7cf53_0 : decode cJ9_min_7cf53 0 = .ok (.iload_n 0, 1) := by decide +kernel
theorem dJ9_min_7cf53_1 : decode cJ9_min_7cf53 1 = .ok (.iload_n 1, 1) := by decide +kernel
theorem dJ9_min_7cf53_2 : decode cJ9_min_7cf53 2 = .ok (.if_icmp .gt 7, 3) := by decide +kernel
theorem dJ9_min_7cf53_5 : decode cJ9_min_7cf53 5 = .ok (.iload_n 0, 1) := by decide +kernel
theorem dJ9_min_7cf53_6 : decode cJ9_min_7cf53 6 = .ok (.goto 4, 3) := by decide +kernel
theorem dJ9_min_7cf53_9 : decode cJ9_min_7cf53 9 = .ok (.iload_n 1, 1) := by decide +kernel
theorem dJ9_min_7cf53_10 : decode cJ9_min_7cf53 10 = .ok (.ireturn, 1) := by decide +kernel
theorem dJ7_fill_53178_0 : decode cJ7_fill_53178 0 = .ok (.iconst 0, 1) := by decide +kernel
theorem dJ7_fill_53178_1 : decode cJ7_fill_53178 1 = .ok (.istore_n 2, 1) := by decide +kernel
theorem dJ7_fill_53178_2 : decode cJ7_fill_53178 2 = .ok (.aload_n 0, 1) := by decide +kernel
theorem dJ7_fill_53178_3 : decode cJ7_fill_53178 3 = .ok (.arraylength, 1) := by decide +kernel
theorem dJ7_fill_53178_4 : decode cJ7_fill_53178 4 = .ok (.istore_n 3, 1) := by decide +kernel
theorem dJ7_fill_53178_5 : decode cJ7_fill_53178 5 = .ok (.iload_n 2, 1) := by decide +kernel
theorem dJ7_fill_53178_6 : decode cJ7_fill_53178 6 = .ok (.iload_n 3, 1) := by decide +kernel
theorem dJ7_fill_53178_7 : decode cJ7_fill_53178 7 = .ok (.if_icmp .ge 13, 3) := by decide +kernel
theorem dJ7_fill_53178_10 : decode cJ7_fill_53178 10 = .ok (.aload_n 0, 1) := by decide +kernel
theorem dJ7_fill_53178_11 : decode cJ7_fill_53178 11 = .ok (.iload_n 2, 1) := by decide +kernel
theorem dJ7_fill_53178_12 : decode cJ7_fill_53178 12 = .ok (.iload_n 1, 1) := by decide +kernel
theorem dJ7_fill_53178_13 : decode cJ7_fill_53178 13 = .ok (.iastore, 1) := by decide +kernel
theorem dJ7_fill_53178_14 : decode cJ7_fill_53178 14 = .ok (.iinc 2 1, 3) := by decide +kernel
theorem dJ7_fill_53178_17 : decode cJ7_fill_53178 17 = .ok (.goto (-12), 3) := by decide +kernel
theorem dJ7_fill_53178_20 : decode cJ7_fill_53178 20 = .ok (.return_, 1) := by decide +kernel
theorem dL_cell_0 : decode cL_cell 0 = .ok (.iload_n 1, 1) := by decide +kernel
theorem dL_cell_1 : decode cL_cell 1 = .ok (.aload_n 0, 1) := by decide +kernel
theorem dL_cell_2 : decode cL_cell 2 = .ok (.arraylength, 1) := by decide +kernel
theorem dL_cell_3 : decode cL_cell 3 = .ok (.if_icmp .ge 9, 3) := by decide +kernel
theorem dL_cell_6 : decode cL_cell 6 = .ok (.aload_n 0, 1) := by decide +kernel
theorem dL_cell_7 : decode cL_cell 7 = .ok (.iload_n 1, 1) := by decide +kernel
theorem dL_cell_8 : decode cL_cell 8 = .ok (.iaload, 1) := by decide +kernel
theorem dL_cell_9 : decode cL_cell 9 = .ok (.goto 11, 3) := by decide +kernel
theorem dL_cell_12 : decode cL_cell 12 = .ok (.ldc 7, 2) := by decide +kernel
theorem dL_cell_14 : decode cL_cell 14 = .ok (.iload_n 1, 1) := by decide +kernel
theorem dL_cell_15 : decode cL_cell 15 = .ok (.imul, 1) := by decide +kernel
theorem dL_cell_16 : decode cL_cell 16 = .ok (.sipush 1249, 3) := by decide +kernel
theorem dL_cell_19 : decode cL_cell 19 = .ok (.iadd, 1) := by decide +kernel
theorem dL_cell_20 : decode cL_cell 20 = .ok (.ireturn, 1) := by decide +kernel
theorem dL_low_0 : decode cL_low 0 = .ok (.iload_n 0, 1) := by decide +kernel
theorem dL_low_1 : decode cL_low 1 = .ok (.ldc 8, 2) := by decide +kernel
theorem dL_low_3 : decode cL_low 3 = .ok (.iand, 1) := by decide +kernel
theorem dL_low_4 : decode cL_low 4 = .ok (.iload_n 1, 1) := by decide +kernel
theorem dL_low_5 : decode cL_low 5 = .ok (.irem, 1) := by decide +kernel
theorem dL_low_6 : decode cL_low 6 = .ok (.ireturn, 1) := by decide +kernel
theorem dL_best_0 : decode cL_best 0 = .ok (.iload_n 2, 1) := by decide +kernel
theorem dL_best_1 : decode cL_best 1 = .ok (.newarray .int, 2) := by decide +kernel
theorem dL_best_3 : decode cL_best 3 = .ok (.astore 4, 2) := by decide +kernel
theorem dL_best_5 : decode cL_best 5 = .ok (.iload_n 2, 1) := by decide +kernel
theorem dL_best_6 : decode cL_best 6 = .ok (.newarray .int, 2) := by decide +kernel
theorem dL_best_8 : decode cL_best 8 = .ok (.astore 5, 2) := by decide +kernel
theorem dL_best_10 : decode cL_best 10 = .ok (.iconst 0, 1) := by decide +kernel
theorem dL_best_11 : decode cL_best 11 = .ok (.istore 6, 2) := by decide +kernel
theorem dL_best_13 : decode cL_best 13 = .ok (.iconst 1, 1) := by decide +kernel
theorem dL_best_14 : decode cL_best 14 = .ok (.istore 7, 2) := by decide +kernel
theorem dL_best_16 : decode cL_best 16 = .ok (.iload 7, 2) := by decide +kernel
theorem dL_best_18 : decode cL_best 18 = .ok (.ifCond .eq 166, 3) := by decide +kernel
theorem dL_best_21 : decode cL_best 21 = .ok (.iconst 0, 1) := by decide +kernel
theorem dL_best_22 : decode cL_best 22 = .ok (.istore 8, 2) := by decide +kernel
theorem dL_best_24 : decode cL_best 24 = .ok (.iconst 0, 1) := by decide +kernel
theorem dL_best_25 : decode cL_best 25 = .ok (.istore 9, 2) := by decide +kernel
theorem dL_best_27 : decode cL_best 27 = .ok (.iconst 0, 1) := by decide +kernel
theorem dL_best_28 : decode cL_best 28 = .ok (.istore 10, 2) := by decide +kernel
theorem dL_best_30 : decode cL_best 30 = .ok (.iload 10, 2) := by decide +kernel
theorem dL_best_32 : decode cL_best 32 = .ok (.iload_n 2, 1) := by decide +kernel
theorem dL_best_33 : decode cL_best 33 = .ok (.if_icmp .ge 34, 3) := by decide +kernel
theorem dL_best_36 : decode cL_best 36 = .ok (.iload 8, 2) := by decide +kernel
theorem dL_best_38 : decode cL_best 38 = .ok (.aload 4, 2) := by decide +kernel
theorem dL_best_40 : decode cL_best 40 = .ok (.iload 10, 2) := by decide +kernel
theorem dL_best_42 : decode cL_best 42 = .ok (.iaload, 1) := by decide +kernel
theorem dL_best_43 : decode cL_best 43 = .ok (.iadd, 1) := by decide +kernel
theorem dL_best_44 : decode cL_best 44 = .ok (.istore 8, 2) := by decide +kernel
theorem dL_best_46 : decode cL_best 46 = .ok (.iload 9, 2) := by decide +kernel
theorem dL_best_48 : decode cL_best 48 = .ok (.aload 4, 2) := by decide +kernel
theorem dL_best_50 : decode cL_best 50 = .ok (.iload 10, 2) := by decide +kernel
theorem dL_best_52 : decode cL_best 52 = .ok (.iaload, 1) := by decide +kernel
theorem dL_best_53 : decode cL_best 53 = .ok (.aload_n 0, 1) := by decide +kernel
theorem dL_best_54 : decode cL_best 54 = .ok (.iload 10, 2) := by decide +kernel
theorem dL_best_56 : decode cL_best 56 = .ok (.iaload, 1) := by decide +kernel
theorem dL_best_57 : decode cL_best 57 = .ok (.imul, 1) := by decide +kernel
theorem dL_best_58 : decode cL_best 58 = .ok (.iadd, 1) := by decide +kernel
theorem dL_best_59 : decode cL_best 59 = .ok (.istore 9, 2) := by decide +kernel
theorem dL_best_61 : decode cL_best 61 = .ok (.iinc 10 1, 3) := by decide +kernel
theorem dL_best_64 : decode cL_best 64 = .ok (.goto (-34), 3) := by decide +kernel
theorem dL_best_67 : decode cL_best 67 = .ok (.iload 8, 2) := by decide +kernel
theorem dL_best_69 : decode cL_best 69 = .ok (.bipush 6, 2) := by decide +kernel
theorem dL_best_71 : decode cL_best 71 = .ok (.if_icmp .gt 45, 3) := by decide +kernel
theorem dL_best_74 : decode cL_best 74 = .ok (.iload 9, 2) := by decide +kernel
theorem dL_best_76 : decode cL_best 76 = .ok (.iload_n 3, 1) := by decide +kernel
theorem dL_best_77 : decode cL_best 77 = .ok (.if_icmp .gt 39, 3) := by decide +kernel
theorem dL_best_80 : decode cL_best 80 = .ok (.iload 9, 2) := by decide +kernel
theorem dL_best_82 : decode cL_best 82 = .ok (.iload 6, 2) := by decide +kernel
theorem dL_best_84 : decode cL_best 84 = .ok (.if_icmp .lt 32, 3) := by decide +kernel
theorem dL_best_87 : decode cL_best 87 = .ok (.iload 9, 2) := by decide +kernel
theorem dL_best_89 : decode cL_best 89 = .ok (.istore 6, 2) := by decide +kernel
theorem dL_best_91 : decode cL_best 91 = .ok (.iconst 0, 1) := by decide +kernel
theorem dL_best_92 : decode cL_best 92 = .ok (.istore 10, 2) := by decide +kernel
theorem dL_best_94 : decode cL_best 94 = .ok (.iload 10, 2) := by decide +kernel
theorem dL_best_96 : decode cL_best 96 = .ok (.iload_n 2, 1) := by decide +kernel
theorem dL_best_97 : decode cL_best 97 = .ok (.if_icmp .ge 19, 3) := by decide +kernel
theorem dL_best_100 : decode cL_best 100 = .ok (.aload 5, 2) := by decide +kernel
theorem dL_best_102 : decode cL_best 102 = .ok (.iload 10, 2) := by decide +kernel
theorem dL_best_104 : decode cL_best 104 = .ok (.aload 4, 2) := by decide +kernel
theorem dL_best_106 : decode cL_best 106 = .ok (.iload 10, 2) := by decide +kernel
theorem dL_best_108 : decode cL_best 108 = .ok (.iaload, 1) := by decide +kernel
theorem dL_best_109 : decode cL_best 109 = .ok (.iastore, 1) := by decide +kernel
theorem dL_best_110 : decode cL_best 110 = .ok (.iinc 10 1, 3) := by decide +kernel
theorem dL_best_113 : decode cL_best 113 = .ok (.goto (-19), 3) := by decide +kernel
theorem dL_best_116 : decode cL_best 116 = .ok (.iload_n 2, 1) := by decide +kernel
theorem dL_best_117 : decode cL_best 117 = .ok (.iconst 1, 1) := by decide +kernel
theorem dL_best_118 : decode cL_best 118 = .ok (.isub, 1) := by decide +kernel
theorem dL_best_119 : decode cL_best 119 = .ok (.istore 10, 2) := by decide +kernel
theorem dL_best_121 : decode cL_best 121 = .ok (.iload 10, 2) := by decide +kernel
theorem dL_best_123 : decode cL_best 123 = .ok (.ifCond .lt 32, 3) := by decide +kernel
theorem dL_best_126 : decode cL_best 126 = .ok (.aload 4, 2) := by decide +kernel
theorem dL_best_128 : decode cL_best 128 = .ok (.iload 10, 2) := by decide +kernel
theorem dL_best_130 : decode cL_best 130 = .ok (.iaload, 1) := by decide +kernel
theorem dL_best_131 : decode cL_best 131 = .ok (.bipush 6, 2) := by decide +kernel
theorem dL_best_133 : decode cL_best 133 = .ok (.aload_n 1, 1) := by decide +kernel
theorem dL_best_134 : decode cL_best 134 = .ok (.iload 10, 2) := by decide +kernel
theorem dL_best_136 : decode cL_best 136 = .ok (.iaload, 1) := by decide +kernel
theorem dL_best_137 : decode cL_best 137 = .ok (.invokestatic 9, 3) := by decide +kernel
theorem dL_best_140 : decode cL_best 140 = .ok (.if_icmp .ne 15, 3) := by decide +kernel
theorem dL_best_143 : decode cL_best 143 = .ok (.aload 4, 2) := by decide +kernel
theorem dL_best_145 : decode cL_best 145 = .ok (.iload 10, 2) := by decide +kernel
theorem dL_best_147 : decode cL_best 147 = .ok (.iconst 0, 1) := by decide +kernel
theorem dL_best_148 : decode cL_best 148 = .ok (.iastore, 1) := by decide +kernel
theorem dL_best_149 : decode cL_best 149 = .ok (.iinc 10 (-1), 3) := by decide +kernel
theorem dL_best_152 : decode cL_best 152 = .ok (.goto (-31), 3) := by decide +kernel
theorem dL_best_155 : decode cL_best 155 = .ok (.iload 10, 2) := by decide +kernel
theorem dL_best_157 : decode cL_best 157 = .ok (.ifCond .lt 7, 3) := by decide +kernel
theorem dL_best_160 : decode cL_best 160 = .ok (.iconst 1, 1) := by decide +kernel
theorem dL_best_161 : decode cL_best 161 = .ok (.goto 4, 3) := by decide +kernel
theorem dL_best_164 : decode cL_best 164 = .ok (.iconst 0, 1) := by decide +kernel
theorem dL_best_165 : decode cL_best 165 = .ok (.istore 7, 2) := by decide +kernel
theorem dL_best_167 : decode cL_best 167 = .ok (.iload 7, 2) := by decide +kernel
theorem dL_best_169 : decode cL_best 169 = .ok (.ifCond .eq 12, 3) := by decide +kernel
theorem dL_best_172 : decode cL_best 172 = .ok (.aload 4, 2) := by decide +kernel
theorem dL_best_174 : decode cL_best 174 = .ok (.iload 10, 2) := by decide +kernel
theorem dL_best_176 : decode cL_best 176 = .ok (.dup2, 1) := by decide +kernel
theorem dL_best_177 : decode cL_best 177 = .ok (.iaload, 1) := by decide +kernel
theorem dL_best_178 : decode cL_best 178 = .ok (.iconst 1, 1) := by decide +kernel
theorem dL_best_179 : decode cL_best 179 = .ok (.iadd, 1) := by decide +kernel
theorem dL_best_180 : decode cL_best 180 = .ok (.iastore, 1) := by decide +kernel
theorem dL_best_181 : decode cL_best 181 = .ok (.goto (-165), 3) := by decide +kernel
theorem dL_best_184 : decode cL_best 184 = .ok (.aload 5, 2) := by decide +kernel
theorem dL_best_186 : decode cL_best 186 = .ok (.areturn, 1) := by decide +kernel
set_option maxRecDepth 20000 in
theorem ggL_next_X4_next : GoodIn wsL_next wsX4_next := goodIn_ca (goodIn_r _ [6, 7, 8, 9, 10, 11, 12, 13, 14, 5, 15, 16, 17, 18, 19, 20, 21, 22, 23, 24, 25, 26, 27, 28, 29, 30, 31, 32, 33, 34, 35, 36, 37, 38, 39, 40, 41, 42, 43, 44, 45, 46, 47] (by decide +kernel) (by decide +kernel)) (goodIn_sub (fun _ h => List.mem_cons_of_mem _ (List.mem_append_right _ h)) (by decide +kernel))
set_option maxRecDepth 20000 in
theorem gL_next_X4_next : GoodIn wsL_next (wsV RL 15 RX4 yX4_next wsX4_next) := goodIn_app (goodIn_of _ (by decide +kernel)) ggL_next_X4_next
theorem dL_next_0 : decode cL_next 0 = .ok (.aload_n 0, 1) := by decide +kernel
theorem dL_next_1 : decode cL_next 1 = .ok (.invokevirtual 15, 3) := by decide +kernel
theorem dL_next_4 : decode cL_next 4 = .ok (.ireturn, 1) := by decide +kernel
theorem dL_next_5 : decode cL_next 5 = .ok (.astore_n 1, 1) := by decide +kernel
theorem dL_next_6 : decode cL_next 6 = .ok (.iconst (-1), 1) := by decide +kernel
theorem dL_next_7 : decode cL_next 7 = .ok (.ireturn, 1) := by decide +kernel
set_option maxRecDepth 20000 in
theorem ggL_agrees_X4_hours : GoodIn wsL_agrees wsX4_hours := goodIn_r _ [5, 6, 7, 236, 237, 238, 239, 240, 241, 242, 243, 244, 245, 246, 247, 248, 249, 250, 251, 252, 253, 254, 255, 256, 257, 258, 259] (by decide +kernel) (by decide +kernel)
set_option maxRecDepth 20000 in
theorem gL_agrees_X4_hours : GoodIn wsL_agrees (wsV RL 23 RX4 yX4_hours wsX4_hours) := goodIn_app (goodIn_of _ (by decide +kernel)) ggL_agrees_X4_hours
set_option maxRecDepth 20000 in
theorem ggL_agrees_X4_changing : GoodIn wsL_agrees wsX4_changing := goodIn_r _ [11, 12, 236, 237, 238, 239, 240, 241, 242, 243, 244, 245, 246, 247, 248] (by decide +kernel) (by decide +kernel)
set_option maxRecDepth 20000 in
theorem gL_agrees_X4_changing : GoodIn wsL_agrees (wsV RL 31 RX4 yX4_changing wsX4_changing) := goodIn_app (goodIn_of _ (by decide +kernel)) ggL_agrees_X4_changing
set_option maxRecDepth 20000 in
theorem ggL_agrees_X4_broke : GoodIn wsL_agrees wsX4_broke := goodIn_r _ [16, 17, 236, 237, 238, 239, 240, 241, 242, 243, 244, 245, 246, 247, 248] (by decide +kernel) (by decide +kernel)
set_option maxRecDepth 20000 in
theorem gL_agrees_X4_broke : GoodIn wsL_agrees (wsV RL 36 RX4 yX4_broke wsX4_broke) := goodIn_app (goodIn_of _ (by decide +kernel)) ggL_agrees_X4_broke
set_option maxRecDepth 20000 in
theorem ggL_agrees_X5_broke : GoodIn wsL_agrees wsX5_broke := goodIn_r _ [22, 23, 24, 25, 213, 214, 215, 216, 217, 218, 219, 220, 221, 222, 223, 224, 225, 226, 227, 228, 229, 230, 231, 232, 233, 234, 235] (by decide +kernel) (by decide +kernel)
set_option maxRecDepth 20000 in
theorem gL_agrees_X5_broke : GoodIn wsL_agrees (wsV RL 39 RX5 yX5_broke wsX5_broke) := goodIn_app (goodIn_of _ (by decide +kernel)) ggL_agrees_X5_broke
set_option maxRecDepth 20000 in
theorem ggL_agrees_X4_brokeByHours : GoodIn wsL_agrees wsX4_brokeByHours := goodIn_r _ [29, 6, 30, 31, 32, 33, 34, 35, 36, 37, 38, 236, 237, 238, 239, 240, 241, 242, 243, 244, 245, 246, 247, 248, 249, 250, 251, 252, 253, 254, 255, 256, 257, 258, 259] (by decide +kernel) (by decide +kernel)
set_option maxRecDepth 20000 in
theorem gL_agrees_X4_brokeByHours : GoodIn wsL_agrees (wsV RL 40 RX4 yX4_brokeByHours wsX4_brokeByHours) := goodIn_app (goodIn_of _ (by decide +kernel)) ggL_agrees_X4_brokeByHours
set_option maxRecDepth 20000 in
theorem ggL_agrees_X4_fresh : GoodIn wsL_agrees wsX4_fresh := goodIn_r _ [42, 6, 43, 236, 237, 238, 239, 240, 241, 242, 243, 244, 245, 246, 247, 248, 249, 250, 251, 252, 253, 254, 255, 256, 257, 258, 259] (by decide +kernel) (by decide +kernel)
set_option maxRecDepth 20000 in
theorem gL_agrees_X4_fresh : GoodIn wsL_agrees (wsV RL 43 RX4 yX4_fresh wsX4_fresh) := goodIn_app (goodIn_of _ (by decide +kernel)) ggL_agrees_X4_fresh
set_option maxRecDepth 20000 in
theorem ggL_agrees_X4_paper : GoodIn wsL_agrees wsX4_paper := goodIn_r _ [47, 6, 48, 236, 237, 238, 239, 240, 241, 242, 243, 244, 245, 246, 247, 248, 249, 250, 251, 252, 253, 254, 255, 256, 257, 258, 259] (by decide +kernel) (by decide +kernel)
set_option maxRecDepth 20000 in
theorem gL_agrees_X4_paper : GoodIn wsL_agrees (wsV RL 51 RX4 yX4_paper wsX4_paper) := goodIn_app (goodIn_of _ (by decide +kernel)) ggL_agrees_X4_paper
set_option maxRecDepth 20000 in
theorem ggL_agrees_X4_lost : GoodIn wsL_agrees wsX4_lost := goodIn_r _ [52, 6, 53, 236, 237, 238, 239, 240, 241, 242, 243, 244, 245, 246, 247, 248, 249, 250, 251, 252, 253, 254, 255, 256, 257, 258, 259] (by decide +kernel) (by decide +kernel)
set_option maxRecDepth 20000 in
theorem gL_agrees_X4_lost : GoodIn wsL_agrees (wsV RL 56 RX4 yX4_lost wsX4_lost) := goodIn_app (goodIn_of _ (by decide +kernel)) ggL_agrees_X4_lost
set_option maxRecDepth 20000 in
theorem ggL_agrees_X4_steamCost : GoodIn wsL_agrees wsX4_steamCost := goodIn_r _ [57, 58, 236, 237, 238, 239, 240, 241, 242, 243, 244, 245, 246, 247, 248] (by decide +kernel) (by decide +kernel)
set_option maxRecDepth 20000 in
theorem gL_agrees_X4_steamCost : GoodIn wsL_agrees (wsV RL 61 RX4 yX4_steamCost wsX4_steamCost) := goodIn_app (goodIn_of _ (by decide +kernel)) ggL_agrees_X4_steamCost
set_option maxRecDepth 20000 in
theorem ggL_agrees_L_next : GoodIn wsL_agrees wsL_next := goodIn_ca (goodIn_r _ [62, 63, 64, 65, 66, 4, 67, 68, 69, 70, 71, 72, 73, 74, 75, 76, 77, 78, 79, 80, 81, 82, 83, 84, 85, 86, 87, 88, 89, 90, 236, 237, 238, 239, 240, 241, 242, 243, 244, 245, 246, 247, 248, 260, 261, 262, 263, 264] (by decide +kernel) (by decide +kernel)) (goodIn_sub (fun _ h => List.mem_cons_of_mem _ (List.mem_append_left _ (List.mem_append_left _ (List.mem_append_right _ h)))) (by decide +kernel))
set_option maxRecDepth 20000 in
theorem gL_agrees_L_next : GoodIn wsL_agrees (va_wsS RL 67 yL_next wsL_next) := goodIn_app (goodIn_of _ (by decide +kernel)) ggL_agrees_L_next
set_option maxRecDepth 20000 in
theorem ggL_agrees_X5_next : GoodIn wsL_agrees wsX5_next := goodIn_r _ [94, 95, 96, 97, 98, 99, 100, 213, 214, 215, 216, 217, 218, 219, 220, 221, 222, 223, 224, 225, 226, 227, 228, 229, 230, 231, 232, 233, 234, 235] (by decide +kernel) (by decide +kernel)
set_option maxRecDepth 20000 in
theorem gL_agrees_X5_next : GoodIn wsL_agrees (wsV RL 72 RX5 yX5_next wsX5_next) := goodIn_app (goodIn_of _ (by decide +kernel)) ggL_agrees_X5_next
set_option maxRecDepth 20000 in
theorem ggL_agrees_X4_lacks : GoodIn wsL_agrees wsX4_lacks := goodIn_ca (goodIn_r _ [104, 105, 106, 82, 107, 108, 109, 110, 86, 111, 88, 236, 237, 238, 239, 240, 241, 242, 243, 244, 245, 246, 247, 248, 260, 261, 262, 263, 264] (by decide +kernel) (by decide +kernel)) (goodIn_sub (fun _ h => List.mem_cons_of_mem _ (List.mem_append_left _ (List.mem_append_right _ h))) (by decide +kernel))
set_option maxRecDepth 20000 in
theorem gL_agrees_X4_lacks : GoodIn wsL_agrees (wsV RL 76 RX4 yX4_lacks wsX4_lacks) := goodIn_app (goodIn_of _ (by decide +kernel)) ggL_agrees_X4_lacks
set_option maxRecDepth 20000 in
theorem ggL_agrees_X4_cut : GoodIn wsL_agrees wsX4_cut := goodIn_ca (goodIn_r _ [115, 105, 106, 82, 116, 108, 109, 110, 86, 111, 88, 236, 237, 238, 239, 240, 241, 242, 243, 244, 245, 246, 247, 248, 260, 261, 262, 263, 264] (by decide +kernel) (by decide +kernel)) (goodIn_sub (fun _ h => List.mem_cons_of_mem _ (List.mem_append_left _ (List.mem_append_right _ h))) (by decide +kernel))
set_option maxRecDepth 20000 in
theorem gL_agrees_X4_cut : GoodIn wsL_agrees (wsV RL 83 RX4 yX4_cut wsX4_cut) := goodIn_app (goodIn_of _ (by decide +kernel)) ggL_agrees_X4_cut
set_option maxRecDepth 20000 in
theorem ggL_agrees_X5_cutOf : GoodIn wsL_agrees wsX5_cutOf := goodIn_r _ [120, 121, 96, 97, 98, 122, 123, 124, 61, 125, 126, 127, 128, 129, 213, 214, 215, 216, 217, 218, 219, 220, 221, 222, 223, 224, 225, 226, 227, 228, 229, 230, 231, 232, 233, 234, 235] (by decide +kernel) (by decide +kernel)
set_option maxRecDepth 20000 in
theorem gL_agrees_X5_cutOf : GoodIn wsL_agrees (wsV RL 88 RX5 yX5_cutOf wsX5_cutOf) := goodIn_app (goodIn_of _ (by decide +kernel)) ggL_agrees_X5_cutOf
set_option maxRecDepth 20000 in
theorem ggL_agrees_X4_trim : GoodIn wsL_agrees wsX4_trim := goodIn_ca (goodIn_r _ [133, 105, 106, 134, 82, 135, 73, 74, 75, 4, 76, 77, 136, 137, 138, 139, 140, 141, 127, 128, 129, 142, 143, 144, 145, 146, 147, 148, 149, 150, 151, 152, 109, 110, 86, 111, 88, 153, 154, 155, 156, 157, 158, 159, 160, 161, 162, 163, 164, 165, 166, 167, 168, 169, 170, 171, 172, 173, 174, 236, 237, 238, 239, 240, 241, 242, 243, 244, 245, 246, 247, 248, 265, 266, 267, 268, 269, 270, 271, 272, 260, 261, 262, 263, 264] (by decide +kernel) (by decide +kernel)) (goodIn_sub (fun _ h => List.mem_cons_of_mem _ (List.mem_append_left _ (List.mem_append_right _ h))) (by decide +kernel))
set_option maxRecDepth 20000 in
theorem gL_agrees_X4_trim : GoodIn wsL_agrees (wsV RL 92 RX4 yX4_trim wsX4_trim) := goodIn_app (goodIn_of _ (by decide +kernel)) ggL_agrees_X4_trim
set_option maxRecDepth 20000 in
theorem ggL_agrees_X5_sumOf : GoodIn wsL_agrees wsX5_sumOf := goodIn_r _ [178, 96, 122, 213, 214, 215, 216, 217, 218, 219, 220, 221, 222, 223, 224, 225, 226, 227, 228, 229, 230, 231, 232, 233, 234, 235] (by decide +kernel) (by decide +kernel)
set_option maxRecDepth 20000 in
theorem gL_agrees_X5_sumOf : GoodIn wsL_agrees (wsV RL 98 RX5 yX5_sumOf wsX5_sumOf) := goodIn_app (goodIn_of _ (by decide +kernel)) ggL_agrees_X5_sumOf
set_option maxRecDepth 20000 in
theorem ggL_agrees_X4_made : GoodIn wsL_agrees wsX4_made := goodIn_ca (goodIn_r _ [182, 105, 106, 6, 183, 184, 185, 186, 33, 187, 35, 236, 237, 238, 239, 240, 241, 242, 243, 244, 245, 246, 247, 248, 249, 250, 251, 252, 253, 254, 255, 256, 257, 258, 259] (by decide +kernel) (by decide +kernel)) (goodIn_sub (fun _ h => List.mem_cons_of_mem _ (List.mem_append_left _ (List.mem_append_right _ h))) (by decide +kernel))
set_option maxRecDepth 20000 in
theorem gL_agrees_X4_made : GoodIn wsL_agrees (wsV RL 102 RX4 yX4_made wsX4_made) := goodIn_app (goodIn_of _ (by decide +kernel)) ggL_agrees_X4_made
set_option maxRecDepth 20000 in
theorem ggL_agrees_X4_grade : GoodIn wsL_agrees wsX4_grade := goodIn_ca (goodIn_r _ [191, 68, 69, 70, 73, 74, 75, 4, 76, 77, 236, 237, 238, 239, 240, 241, 242, 243, 244, 245, 246, 247, 248] (by decide +kernel) (by decide +kernel)) (goodIn_sub (fun _ h => List.mem_cons_of_mem _ (List.mem_append_left _ (List.mem_append_left _ (List.mem_append_right _ h)))) (by decide +kernel))
set_option maxRecDepth 20000 in
theorem gL_agrees_X4_grade : GoodIn wsL_agrees (wsV RL 113 RX4 yX4_grade wsX4_grade) := goodIn_app (goodIn_of _ (by decide +kernel)) ggL_agrees_X4_grade
set_option maxRecDepth 20000 in
theorem ggL_agrees_X4_mass : GoodIn wsL_agrees wsX4_mass := goodIn_ca (goodIn_r _ [195, 105, 106, 73, 74, 75, 4, 76, 77, 196, 197, 198, 199, 71, 135, 236, 237, 238, 239, 240, 241, 242, 243, 244, 245, 246, 247, 248] (by decide +kernel) (by decide +kernel)) (goodIn_sub (fun _ h => List.mem_cons_of_mem _ (List.mem_append_left _ (List.mem_append_right _ h))) (by decide +kernel))
set_option maxRecDepth 20000 in
theorem gL_agrees_X4_mass : GoodIn wsL_agrees (wsV RL 116 RX4 yX4_mass wsX4_mass) := goodIn_app (goodIn_of _ (by decide +kernel)) ggL_agrees_X4_mass
set_option maxRecDepth 20000 in
theorem ggL_agrees_X4_paperShare : GoodIn wsL_agrees wsX4_paperShare := goodIn_ca (goodIn_r _ [203, 204, 205, 6, 206, 48, 236, 237, 238, 239, 240, 241, 242, 243, 244, 245, 246, 247, 248, 249, 250, 251, 252, 253, 254, 255, 256, 257, 258, 259] (by decide +kernel) (by decide +kernel)) (goodIn_sub (fun _ h => List.mem_cons_of_mem _ (List.mem_append_right _ h)) (by decide +kernel))
set_option maxRecDepth 20000 in
theorem gL_agrees_X4_paperShare : GoodIn wsL_agrees (wsV RL 124 RX4 yX4_paperShare wsX4_paperShare) := goodIn_app (goodIn_of _ (by decide +kernel)) ggL_agrees_X4_paperShare
set_option maxRecDepth 20000 in
theorem ggL_agrees_X4_meanTrim : GoodIn wsL_agrees wsX4_meanTrim := goodIn_ca (goodIn_r _ [210, 204, 205, 6, 211, 212, 236, 237, 238, 239, 240, 241, 242, 243, 244, 245, 246, 247, 248, 249, 250, 251, 252, 253, 254, 255, 256, 257, 258, 259] (by decide +kernel) (by decide +kernel)) (goodIn_sub (fun _ h => List.mem_cons_of_mem _ (List.mem_append_right _ h)) (by decide +kernel))
set_option maxRecDepth 20000 in
theorem gL_agrees_X4_meanTrim : GoodIn wsL_agrees (wsV RL 131 RX4 yX4_meanTrim wsX4_meanTrim) := goodIn_app (goodIn_of _ (by decide +kernel)) ggL_agrees_X4_meanTrim
theorem dL_agrees_0 : decode cL_agrees 0 = .ok (.aload_n 0, 1) := by decide +kernel
theorem dL_agrees_1 : decode cL_agrees 1 = .ok (.invokevirtual 23, 3) := by decide +kernel
theorem dL_agrees_4 : decode cL_agrees 4 = .ok (.aload_n 1, 1) := by decide +kernel
theorem dL_agrees_5 : decode cL_agrees 5 = .ok (.getfield 26, 3) := by decide +kernel
theorem dL_agrees_8 : decode cL_agrees 8 = .ok (.if_icmp .ne 99, 3) := by decide +kernel
theorem dL_agrees_11 : decode cL_agrees 11 = .ok (.aload_n 0, 1) := by decide +kernel
theorem dL_agrees_12 : decode cL_agrees 12 = .ok (.invokevirtual 31, 3) := by decide +kernel
theorem dL_agrees_15 : decode cL_agrees 15 = .ok (.aload_n 1, 1) := by decide +kernel
theorem dL_agrees_16 : decode cL_agrees 16 = .ok (.getfield 34, 3) := by decide +kernel
theorem dL_agrees_19 : decode cL_agrees 19 = .ok (.if_icmp .ne 88, 3) := by decide +kernel
theorem dL_agrees_22 : decode cL_agrees 22 = .ok (.aload_n 0, 1) := by decide +kernel
theorem dL_agrees_23 : decode cL_agrees 23 = .ok (.invokevirtual 36, 3) := by decide +kernel
theorem dL_agrees_26 : decode cL_agrees 26 = .ok (.aload_n 1, 1) := by decide +kernel
theorem dL_agrees_27 : decode cL_agrees 27 = .ok (.invokevirtual 39, 3) := by decide +kernel
theorem dL_agrees_30 : decode cL_agrees 30 = .ok (.if_icmp .ne 77, 3) := by decide +kernel
theorem dL_agrees_33 : decode cL_agrees 33 = .ok (.aload_n 0, 1) := by decide +kernel
theorem dL_agrees_34 : decode cL_agrees 34 = .ok (.invokevirtual 40, 3) := by decide +kernel
theorem dL_agrees_37 : decode cL_agrees 37 = .ok (.aload_n 1, 1) := by decide +kernel
theorem dL_agrees_38 : decode cL_agrees 38 = .ok (.invokevirtual 39, 3) := by decide +kernel
theorem dL_agrees_41 : decode cL_agrees 41 = .ok (.if_icmp .ne 66, 3) := by decide +kernel
theorem dL_agrees_44 : decode cL_agrees 44 = .ok (.aload_n 0, 1) := by decide +kernel
theorem dL_agrees_45 : decode cL_agrees 45 = .ok (.invokevirtual 43, 3) := by decide +kernel
theorem dL_agrees_48 : decode cL_agrees 48 = .ok (.aload_n 1, 1) := by decide +kernel
theorem dL_agrees_49 : decode cL_agrees 49 = .ok (.getfield 47, 3) := by decide +kernel
theorem dL_agrees_52 : decode cL_agrees 52 = .ok (.lcmp, 1) := by decide +kernel
theorem dL_agrees_53 : decode cL_agrees 53 = .ok (.ifCond .ne 54, 3) := by decide +kernel
theorem dL_agrees_56 : decode cL_agrees 56 = .ok (.aload_n 0, 1) := by decide +kernel
theorem dL_agrees_57 : decode cL_agrees 57 = .ok (.invokevirtual 51, 3) := by decide +kernel
theorem dL_agrees_60 : decode cL_agrees 60 = .ok (.aload_n 1, 1) := by decide +kernel
theorem dL_agrees_61 : decode cL_agrees 61 = .ok (.getfield 54, 3) := by decide +kernel
theorem dL_agrees_64 : decode cL_agrees 64 = .ok (.lcmp, 1) := by decide +kernel
theorem dL_agrees_65 : decode cL_agrees 65 = .ok (.ifCond .ne 42, 3) := by decide +kernel
theorem dL_agrees_68 : decode cL_agrees 68 = .ok (.aload_n 0, 1) := by decide +kernel
theorem dL_agrees_69 : decode cL_agrees 69 = .ok (.invokevirtual 56, 3) := by decide +kernel
theorem dL_agrees_72 : decode cL_agrees 72 = .ok (.aload_n 1, 1) := by decide +kernel
theorem dL_agrees_73 : decode cL_agrees 73 = .ok (.getfield 59, 3) := by decide +kernel
theorem dL_agrees_76 : decode cL_agrees 76 = .ok (.lcmp, 1) := by decide +kernel
theorem dL_agrees_77 : decode cL_agrees 77 = .ok (.ifCond .ne 30, 3) := by decide +kernel
theorem dL_agrees_80 : decode cL_agrees 80 = .ok (.aload_n 0, 1) := by decide +kernel
theorem dL_agrees_81 : decode cL_agrees 81 = .ok (.invokevirtual 61, 3) := by decide +kernel
theorem dL_agrees_84 : decode cL_agrees 84 = .ok (.aload_n 1, 1) := by decide +kernel
theorem dL_agrees_85 : decode cL_agrees 85 = .ok (.getfield 64, 3) := by decide +kernel
theorem dL_agrees_88 : decode cL_agrees 88 = .ok (.lcmp, 1) := by decide +kernel
theorem dL_agrees_89 : decode cL_agrees 89 = .ok (.ifCond .ne 18, 3) := by decide +kernel
theorem dL_agrees_92 : decode cL_agrees 92 = .ok (.aload_n 0, 1) := by decide +kernel
theorem dL_agrees_93 : decode cL_agrees 93 = .ok (.invokestatic 67, 3) := by decide +kernel
theorem dL_agrees_96 : decode cL_agrees 96 = .ok (.aload_n 1, 1) := by decide +kernel
theorem dL_agrees_97 : decode cL_agrees 97 = .ok (.invokevirtual 72, 3) := by decide +kernel
theorem dL_agrees_100 : decode cL_agrees 100 = .ok (.if_icmp .ne 7, 3) := by decide +kernel
theorem dL_agrees_103 : decode cL_agrees 103 = .ok (.iconst 1, 1) := by decide +kernel
theorem dL_agrees_104 : decode cL_agrees 104 = .ok (.goto 4, 3) := by decide +kernel
theorem dL_agrees_107 : decode cL_agrees 107 = .ok (.iconst 0, 1) := by decide +kernel
theorem dL_agrees_108 : decode cL_agrees 108 = .ok (.istore_n 2, 1) := by decide +kernel
theorem dL_agrees_109 : decode cL_agrees 109 = .ok (.iconst 0, 1) := by decide +kernel
theorem dL_agrees_110 : decode cL_agrees 110 = .ok (.istore_n 3, 1) := by decide +kernel
theorem dL_agrees_111 : decode cL_agrees 111 = .ok (.iload_n 3, 1) := by decide +kernel
theorem dL_agrees_112 : decode cL_agrees 112 = .ok (.aload_n 1, 1) := by decide +kernel
theorem dL_agrees_113 : decode cL_agrees 113 = .ok (.getfield 73, 3) := by decide +kernel
theorem dL_agrees_116 : decode cL_agrees 116 = .ok (.if_icmp .ge 47, 3) := by decide +kernel
theorem dL_agrees_119 : decode cL_agrees 119 = .ok (.iload_n 2, 1) := by decide +kernel
theorem dL_agrees_120 : decode cL_agrees 120 = .ok (.ifCond .eq 43, 3) := by decide +kernel
theorem dL_agrees_123 : decode cL_agrees 123 = .ok (.aload_n 0, 1) := by decide +kernel
theorem dL_agrees_124 : decode cL_agrees 124 = .ok (.iload_n 3, 1) := by decide +kernel
theorem dL_agrees_125 : decode cL_agrees 125 = .ok (.invokevirtual 76, 3) := by decide +kernel
theorem dL_agrees_128 : decode cL_agrees 128 = .ok (.aload_n 1, 1) := by decide +kernel
theorem dL_agrees_129 : decode cL_agrees 129 = .ok (.getfield 80, 3) := by decide +kernel
theorem dL_agrees_132 : decode cL_agrees 132 = .ok (.iload_n 3, 1) := by decide +kernel
theorem dL_agrees_133 : decode cL_agrees 133 = .ok (.iaload, 1) := by decide +kernel
theorem dL_agrees_134 : decode cL_agrees 134 = .ok (.if_icmp .ne 21, 3) := by decide +kernel
theorem dL_agrees_137 : decode cL_agrees 137 = .ok (.aload_n 0, 1) := by decide +kernel
theorem dL_agrees_138 : decode cL_agrees 138 = .ok (.iload_n 3, 1) := by decide +kernel
theorem dL_agrees_139 : decode cL_agrees 139 = .ok (.invokevirtual 83, 3) := by decide +kernel
theorem dL_agrees_142 : decode cL_agrees 142 = .ok (.aload_n 1, 1) := by decide +kernel
theorem dL_agrees_143 : decode cL_agrees 143 = .ok (.getfield 86, 3) := by decide +kernel
theorem dL_agrees_146 : decode cL_agrees 146 = .ok (.iload_n 3, 1) := by decide +kernel
theorem dL_agrees_147 : decode cL_agrees 147 = .ok (.iaload, 1) := by decide +kernel
theorem dL_agrees_148 : decode cL_agrees 148 = .ok (.if_icmp .ne 7, 3) := by decide +kernel
theorem dL_agrees_151 : decode cL_agrees 151 = .ok (.iconst 1, 1) := by decide +kernel
theorem dL_agrees_152 : decode cL_agrees 152 = .ok (.goto 4, 3) := by decide +kernel
theorem dL_agrees_155 : decode cL_agrees 155 = .ok (.iconst 0, 1) := by decide +kernel
theorem dL_agrees_156 : decode cL_agrees 156 = .ok (.istore_n 2, 1) := by decide +kernel
theorem dL_agrees_157 : decode cL_agrees 157 = .ok (.iinc 3 1, 3) := by decide +kernel
theorem dL_agrees_160 : decode cL_agrees 160 = .ok (.goto (-49), 3) := by decide +kernel
theorem dL_agrees_163 : decode cL_agrees 163 = .ok (.aload_n 1, 1) := by decide +kernel
theorem dL_agrees_164 : decode cL_agrees 164 = .ok (.iconst 0, 1) := by decide +kernel
theorem dL_agrees_165 : decode cL_agrees 165 = .ok (.invokevirtual 88, 3) := by decide +kernel
theorem dL_agrees_168 : decode cL_agrees 168 = .ok (.astore_n 3, 1) := by decide +kernel
theorem dL_agrees_169 : decode cL_agrees 169 = .ok (.iload_n 2, 1) := by decide +kernel
theorem dL_agrees_170 : decode cL_agrees 170 = .ok (.ifCond .eq 95, 3) := by decide +kernel
theorem dL_agrees_173 : decode cL_agrees 173 = .ok (.aload_n 0, 1) := by decide +kernel
theorem dL_agrees_174 : decode cL_agrees 174 = .ok (.iconst 0, 1) := by decide +kernel
theorem dL_agrees_175 : decode cL_agrees 175 = .ok (.invokevirtual 92, 3) := by decide +kernel
theorem dL_agrees_178 : decode cL_agrees 178 = .ok (.aload_n 1, 1) := by decide +kernel
theorem dL_agrees_179 : decode cL_agrees 179 = .ok (.getfield 95, 3) := by decide +kernel
theorem dL_agrees_182 : decode cL_agrees 182 = .ok (.aload_n 1, 1) := by decide +kernel
theorem dL_agrees_183 : decode cL_agrees 183 = .ok (.aload_n 3, 1) := by decide +kernel
theorem dL_agrees_184 : decode cL_agrees 184 = .ok (.invokevirtual 98, 3) := by decide +kernel
theorem dL_agrees_187 : decode cL_agrees 187 = .ok (.isub, 1) := by decide +kernel
theorem dL_agrees_188 : decode cL_agrees 188 = .ok (.if_icmp .ne 77, 3) := by decide +kernel
theorem dL_agrees_191 : decode cL_agrees 191 = .ok (.aload_n 1, 1) := by decide +kernel
theorem dL_agrees_192 : decode cL_agrees 192 = .ok (.getfield 26, 3) := by decide +kernel
theorem dL_agrees_195 : decode cL_agrees 195 = .ok (.ifCond .eq 20, 3) := by decide +kernel
theorem dL_agrees_198 : decode cL_agrees 198 = .ok (.aload_n 0, 1) := by decide +kernel
theorem dL_agrees_199 : decode cL_agrees 199 = .ok (.aload_n 1, 1) := by decide +kernel
theorem dL_agrees_200 : decode cL_agrees 200 = .ok (.getfield 26, 3) := by decide +kernel
theorem dL_agrees_203 : decode cL_agrees 203 = .ok (.iconst 1, 1) := by decide +kernel
theorem dL_agrees_204 : decode cL_agrees 204 = .ok (.isub, 1) := by decide +kernel
theorem dL_agrees_205 : decode cL_agrees 205 = .ok (.invokevirtual 102, 3) := by decide +kernel
theorem dL_agrees_208 : decode cL_agrees 208 = .ok (.aload_n 1, 1) := by decide +kernel
theorem dL_agrees_209 : decode cL_agrees 209 = .ok (.getfield 106, 3) := by decide +kernel
theorem dL_agrees_212 : decode cL_agrees 212 = .ok (.if_icmp .ne 53, 3) := by decide +kernel
theorem dL_agrees_215 : decode cL_agrees 215 = .ok (.aload_n 1, 1) := by decide +kernel
theorem dL_agrees_216 : decode cL_agrees 216 = .ok (.getfield 110, 3) := by decide +kernel
theorem dL_agrees_219 : decode cL_agrees 219 = .ok (.ifCond .lt 42, 3) := by decide +kernel
theorem dL_agrees_222 : decode cL_agrees 222 = .ok (.aload_n 0, 1) := by decide +kernel
theorem dL_agrees_223 : decode cL_agrees 223 = .ok (.invokevirtual 113, 3) := by decide +kernel
theorem dL_agrees_226 : decode cL_agrees 226 = .ok (.aload_n 1, 1) := by decide +kernel
theorem dL_agrees_227 : decode cL_agrees 227 = .ok (.getfield 110, 3) := by decide +kernel
theorem dL_agrees_230 : decode cL_agrees 230 = .ok (.if_icmp .ne 35, 3) := by decide +kernel
theorem dL_agrees_233 : decode cL_agrees 233 = .ok (.aload_n 0, 1) := by decide +kernel
theorem dL_agrees_234 : decode cL_agrees 234 = .ok (.aload_n 1, 1) := by decide +kernel
theorem dL_agrees_235 : decode cL_agrees 235 = .ok (.getfield 110, 3) := by decide +kernel
theorem dL_agrees_238 : decode cL_agrees 238 = .ok (.invokevirtual 116, 3) := by decide +kernel
theorem dL_agrees_241 : decode cL_agrees 241 = .ok (.aload_n 1, 1) := by decide +kernel
theorem dL_agrees_242 : decode cL_agrees 242 = .ok (.getfield 119, 3) := by decide +kernel
theorem dL_agrees_245 : decode cL_agrees 245 = .ok (.aload_n 1, 1) := by decide +kernel
theorem dL_agrees_246 : decode cL_agrees 246 = .ok (.getfield 110, 3) := by decide +kernel
theorem dL_agrees_249 : decode cL_agrees 249 = .ok (.iaload, 1) := by decide +kernel
theorem dL_agrees_250 : decode cL_agrees 250 = .ok (.aload_n 1, 1) := by decide +kernel
theorem dL_agrees_251 : decode cL_agrees 251 = .ok (.getfield 95, 3) := by decide +kernel
theorem dL_agrees_254 : decode cL_agrees 254 = .ok (.imul, 1) := by decide +kernel
theorem dL_agrees_255 : decode cL_agrees 255 = .ok (.bipush 10, 2) := by decide +kernel
theorem dL_agrees_257 : decode cL_agrees 257 = .ok (.idiv, 1) := by decide +kernel
theorem dL_agrees_258 : decode cL_agrees 258 = .ok (.if_icmp .ne 7, 3) := by decide +kernel
theorem dL_agrees_261 : decode cL_agrees 261 = .ok (.iconst 1, 1) := by decide +kernel
theorem dL_agrees_262 : decode cL_agrees 262 = .ok (.goto 4, 3) := by decide +kernel
theorem dL_agrees_265 : decode cL_agrees 265 = .ok (.iconst 0, 1) := by decide +kernel
theorem dL_agrees_266 : decode cL_agrees 266 = .ok (.istore_n 2, 1) := by decide +kernel
theorem dL_agrees_267 : decode cL_agrees 267 = .ok (.iload_n 2, 1) := by decide +kernel
theorem dL_agrees_268 : decode cL_agrees 268 = .ok (.ifCond .eq 61, 3) := by decide +kernel
