theorem dX0_init_0 : decode cX0_init 0 = .ok (.aload_n 0, 1) := by decide +kernel
theorem dX0_init_1 : decode cX0_init 1 = .ok (.invokespecial 1, 3) := by decide +kernel
theorem dX0_init_4 : decode cX0_init 4 = .ok (.aload_n 0, 1) := by decide +kernel
theorem dX0_init_5 : decode cX0_init 5 = .ok (.sipush 2000, 3) := by decide +kernel
theorem dX0_init_8 : decode cX0_init 8 = .ok (.putfield 7, 3) := by decide +kernel
theorem dX0_init_11 : decode cX0_init 11 = .ok (.aload_n 0, 1) := by decide +kernel
theorem dX0_init_12 : decode cX0_init 12 = .ok (.iconst 3, 1) := by decide +kernel
theorem dX0_init_13 : decode cX0_init 13 = .ok (.putfield 13, 3) := by decide +kernel
theorem dX0_init_16 : decode cX0_init 16 = .ok (.aload_n 0, 1) := by decide +kernel
theorem dX0_init_17 : decode cX0_init 17 = .ok (.iconst 5, 1) := by decide +kernel
theorem dX0_init_18 : decode cX0_init 18 = .ok (.putfield 16, 3) := by decide +kernel
theorem dX0_init_21 : decode cX0_init 21 = .ok (.return_, 1) := by decide +kernel
theorem dX0_cost_0 : decode cX0_cost 0 = .ok (.iload_n 1, 1) := by decide +kernel
theorem dX0_cost_1 : decode cX0_cost 1 = .ok (.aload_n 0, 1) := by decide +kernel
theorem dX0_cost_2 : decode cX0_cost 2 = .ok (.getfield 7, 3) := by decide +kernel
theorem dX0_cost_5 : decode cX0_cost 5 = .ok (.invokestatic 19, 3) := by decide +kernel
theorem dX0_cost_8 : decode cX0_cost 8 = .ok (.istore_n 2, 1) := by decide +kernel
theorem dX0_cost_9 : decode cX0_cost 9 = .ok (.iload_n 2, 1) := by decide +kernel
theorem dX0_cost_10 : decode cX0_cost 10 = .ok (.i2l, 1) := by decide +kernel
theorem dX0_cost_11 : decode cX0_cost 11 = .ok (.aload_n 0, 1) := by decide +kernel
theorem dX0_cost_12 : decode cX0_cost 12 = .ok (.getfield 13, 3) := by decide +kernel
theorem dX0_cost_15 : decode cX0_cost 15 = .ok (.i2l, 1) := by decide +kernel
theorem dX0_cost_16 : decode cX0_cost 16 = .ok (.lmul, 1) := by decide +kernel
theorem dX0_cost_17 : decode cX0_cost 17 = .ok (.iload_n 1, 1) := by decide +kernel
theorem dX0_cost_18 : decode cX0_cost 18 = .ok (.iload_n 2, 1) := by decide +kernel
theorem dX0_cost_19 : decode cX0_cost 19 = .ok (.isub, 1) := by decide +kernel
theorem dX0_cost_20 : decode cX0_cost 20 = .ok (.i2l, 1) := by decide +kernel
theorem dX0_cost_21 : decode cX0_cost 21 = .ok (.aload_n 0, 1) := by decide +kernel
theorem dX0_cost_22 : decode cX0_cost 22 = .ok (.getfield 16, 3) := by decide +kernel
theorem dX0_cost_25 : decode cX0_cost 25 = .ok (.i2l, 1) := by decide +kernel
theorem dX0_cost_26 : decode cX0_cost 26 = .ok (.lmul, 1) := by decide +kernel
theorem dX0_cost_27 : decode cX0_cost 27 = .ok (.ladd, 1) := by decide +kernel
theorem dX0_cost_28 : decode cX0_cost 28 = .ok (.lreturn, 1) := by decide +kernel
theorem dX1_init_0 : decode cX1_init 0 = .ok (.aload_n 0, 1) := by decide +kernel
theorem dX1_init_1 : decode cX1_init 1 = .ok (.invokespecial 3, 3) := by decide +kernel
theorem dX1_init_4 : decode cX1_init 4 = .ok (.aload_n 0, 1) := by decide +kernel
theorem dX1_init_5 : decode cX1_init 5 = .ok (.bipush 10, 2) := by decide +kernel
theorem dX1_init_7 : decode cX1_init 7 = .ok (.newarray .int, 2) := by decide +kernel
theorem dX1_init_9 : decode cX1_init 9 = .ok (.putfield 9, 3) := by decide +kernel
theorem dX1_init_12 : decode cX1_init 12 = .ok (.aload_n 0, 1) := by decide +kernel
theorem dX1_init_13 : decode cX1_init 13 = .ok (.bipush 10, 2) := by decide +kernel
theorem dX1_init_15 : decode cX1_init 15 = .ok (.newarray .int, 2) := by decide +kernel
theorem dX1_init_17 : decode cX1_init 17 = .ok (.putfield 15, 3) := by decide +kernel
theorem dX1_init_20 : decode cX1_init 20 = .ok (.aload_n 0, 1) := by decide +kernel
theorem dX1_init_21 : decode cX1_init 21 = .ok (.bipush 10, 2) := by decide +kernel
theorem dX1_init_23 : decode cX1_init 23 = .ok (.newarray .int, 2) := by decide +kernel
theorem dX1_init_25 : decode cX1_init 25 = .ok (.putfield 18, 3) := by decide +kernel
theorem dX1_init_28 : decode cX1_init 28 = .ok (.aload_n 0, 1) := by decide +kernel
theorem dX1_init_29 : decode cX1_init 29 = .ok (.bipush 10, 2) := by decide +kernel
theorem dX1_init_31 : decode cX1_init 31 = .ok (.newarray .int, 2) := by decide +kernel
theorem dX1_init_33 : decode cX1_init 33 = .ok (.putfield 21, 3) := by decide +kernel
theorem dX1_init_36 : decode cX1_init 36 = .ok (.aload_n 0, 1) := by decide +kernel
theorem dX1_init_37 : decode cX1_init 37 = .ok (.bipush 10, 2) := by decide +kernel
theorem dX1_init_39 : decode cX1_init 39 = .ok (.newarray .int, 2) := by decide +kernel
theorem dX1_init_41 : decode cX1_init 41 = .ok (.putfield 24, 3) := by decide +kernel
theorem dX1_init_44 : decode cX1_init 44 = .ok (.aload_n 0, 1) := by decide +kernel
theorem dX1_init_45 : decode cX1_init 45 = .ok (.sipush 801, 3) := by decide +kernel
theorem dX1_init_48 : decode cX1_init 48 = .ok (.newarray .int, 2) := by decide +kernel
theorem dX1_init_50 : decode cX1_init 50 = .ok (.putfield 27, 3) := by decide +kernel
theorem dX1_init_53 : decode cX1_init 53 = .ok (.return_, 1) := by decide +kernel
set_option maxRecDepth 20000 in
theorem ggX1_load_X3_has : GoodIn wsX1_load wsX3_has := goodIn_r _ [19, 20, 29, 30, 31, 32, 33] (by decide +kernel) (by decide +kernel)
set_option maxRecDepth 20000 in
theorem gX1_load_X3_has : GoodIn wsX1_load (wsV RX1 43 RX3 yX3_has wsX3_has) := goodIn_app (goodIn_of _ (by decide +kernel)) ggX1_load_X3_has
theorem dX1_load_0 : decode cX1_load 0 = .ok (.aload_n 0, 1) := by decide +kernel
theorem dX1_load_1 : decode cX1_load 1 = .ok (.iconst 0, 1) := by decide +kernel
theorem dX1_load_2 : decode cX1_load 2 = .ok (.iload_n 3, 1) := by decide +kernel
theorem dX1_load_3 : decode cX1_load 3 = .ok (.sipush 800, 3) := by decide +kernel
theorem dX1_load_6 : decode cX1_load 6 = .ok (.invokestatic 30, 3) := by decide +kernel
theorem dX1_load_9 : decode cX1_load 9 = .ok (.invokestatic 36, 3) := by decide +kernel
theorem dX1_load_12 : decode cX1_load 12 = .ok (.putfield 39, 3) := by decide +kernel
theorem dX1_load_15 : decode cX1_load 15 = .ok (.iconst 0, 1) := by decide +kernel
theorem dX1_load_16 : decode cX1_load 16 = .ok (.istore 4, 2) := by decide +kernel
theorem dX1_load_18 : decode cX1_load 18 = .ok (.bipush 9, 2) := by decide +kernel
theorem dX1_load_20 : decode cX1_load 20 = .ok (.istore 5, 2) := by decide +kernel
theorem dX1_load_22 : decode cX1_load 22 = .ok (.iload 5, 2) := by decide +kernel
theorem dX1_load_24 : decode cX1_load 24 = .ok (.ifCond .lt 116, 3) := by decide +kernel
theorem dX1_load_27 : decode cX1_load 27 = .ok (.aload_n 1, 1) := by decide +kernel
theorem dX1_load_28 : decode cX1_load 28 = .ok (.iload 5, 2) := by decide +kernel
theorem dX1_load_30 : decode cX1_load 30 = .ok (.invokevirtual 43, 3) := by decide +kernel
theorem dX1_load_33 : decode cX1_load 33 = .ok (.ifCond .eq 18, 3) := by decide +kernel
theorem dX1_load_36 : decode cX1_load 36 = .ok (.aload_n 1, 1) := by decide +kernel
theorem dX1_load_37 : decode cX1_load 37 = .ok (.getfield 49, 3) := by decide +kernel
theorem dX1_load_40 : decode cX1_load 40 = .ok (.iload 5, 2) := by decide +kernel
theorem dX1_load_42 : decode cX1_load 42 = .ok (.iaload, 1) := by decide +kernel
theorem dX1_load_43 : decode cX1_load 43 = .ok (.iload_n 2, 1) := by decide +kernel
theorem dX1_load_44 : decode cX1_load 44 = .ok (.if_icmp .ne 7, 3) := by decide +kernel
theorem dX1_load_47 : decode cX1_load 47 = .ok (.iconst 1, 1) := by decide +kernel
theorem dX1_load_48 : decode cX1_load 48 = .ok (.goto 4, 3) := by decide +kernel
theorem dX1_load_51 : decode cX1_load 51 = .ok (.iconst 0, 1) := by decide +kernel
theorem dX1_load_52 : decode cX1_load 52 = .ok (.istore 6, 2) := by decide +kernel
theorem dX1_load_54 : decode cX1_load 54 = .ok (.aload_n 0, 1) := by decide +kernel
theorem dX1_load_55 : decode cX1_load 55 = .ok (.getfield 18, 3) := by decide +kernel
theorem dX1_load_58 : decode cX1_load 58 = .ok (.iload 5, 2) := by decide +kernel
theorem dX1_load_60 : decode cX1_load 60 = .ok (.aload_n 1, 1) := by decide +kernel
theorem dX1_load_61 : decode cX1_load 61 = .ok (.getfield 52, 3) := by decide +kernel
theorem dX1_load_64 : decode cX1_load 64 = .ok (.iload 5, 2) := by decide +kernel
theorem dX1_load_66 : decode cX1_load 66 = .ok (.iaload, 1) := by decide +kernel
theorem dX1_load_67 : decode cX1_load 67 = .ok (.iastore, 1) := by decide +kernel
theorem dX1_load_68 : decode cX1_load 68 = .ok (.aload_n 0, 1) := by decide +kernel
theorem dX1_load_69 : decode cX1_load 69 = .ok (.getfield 21, 3) := by decide +kernel
theorem dX1_load_72 : decode cX1_load 72 = .ok (.iload 5, 2) := by decide +kernel
theorem dX1_load_74 : decode cX1_load 74 = .ok (.iload 6, 2) := by decide +kernel
theorem dX1_load_76 : decode cX1_load 76 = .ok (.ifCond .eq 18, 3) := by decide +kernel
theorem dX1_load_79 : decode cX1_load 79 = .ok (.aload_n 1, 1) := by decide +kernel
theorem dX1_load_80 : decode cX1_load 80 = .ok (.getfield 53, 3) := by decide +kernel
theorem dX1_load_83 : decode cX1_load 83 = .ok (.iload 5, 2) := by decide +kernel
theorem dX1_load_85 : decode cX1_load 85 = .ok (.iaload, 1) := by decide +kernel
theorem dX1_load_86 : decode cX1_load 86 = .ok (.bipush 6, 2) := by decide +kernel
theorem dX1_load_88 : decode cX1_load 88 = .ok (.invokestatic 30, 3) := by decide +kernel
theorem dX1_load_91 : decode cX1_load 91 = .ok (.goto 4, 3) := by decide +kernel
theorem dX1_load_94 : decode cX1_load 94 = .ok (.iconst 0, 1) := by decide +kernel
theorem dX1_load_95 : decode cX1_load 95 = .ok (.iastore, 1) := by decide +kernel
theorem dX1_load_96 : decode cX1_load 96 = .ok (.aload_n 0, 1) := by decide +kernel
theorem dX1_load_97 : decode cX1_load 97 = .ok (.getfield 21, 3) := by decide +kernel
theorem dX1_load_100 : decode cX1_load 100 = .ok (.iload 5, 2) := by decide +kernel
theorem dX1_load_102 : decode cX1_load 102 = .ok (.iaload, 1) := by decide +kernel
theorem dX1_load_103 : decode cX1_load 103 = .ok (.ifCond .le 18, 3) := by decide +kernel
theorem dX1_load_106 : decode cX1_load 106 = .ok (.iload 4, 2) := by decide +kernel
theorem dX1_load_108 : decode cX1_load 108 = .ok (.aload_n 0, 1) := by decide +kernel
theorem dX1_load_109 : decode cX1_load 109 = .ok (.getfield 18, 3) := by decide +kernel
theorem dX1_load_112 : decode cX1_load 112 = .ok (.iload 5, 2) := by decide +kernel
theorem dX1_load_114 : decode cX1_load 114 = .ok (.iaload, 1) := by decide +kernel
theorem dX1_load_115 : decode cX1_load 115 = .ok (.invokestatic 36, 3) := by decide +kernel
theorem dX1_load_118 : decode cX1_load 118 = .ok (.goto 5, 3) := by decide +kernel
theorem dX1_load_121 : decode cX1_load 121 = .ok (.iload 4, 2) := by decide +kernel
theorem dX1_load_123 : decode cX1_load 123 = .ok (.istore 4, 2) := by decide +kernel
theorem dX1_load_125 : decode cX1_load 125 = .ok (.aload_n 0, 1) := by decide +kernel
theorem dX1_load_126 : decode cX1_load 126 = .ok (.getfield 24, 3) := by decide +kernel
theorem dX1_load_129 : decode cX1_load 129 = .ok (.iload 5, 2) := by decide +kernel
theorem dX1_load_131 : decode cX1_load 131 = .ok (.iload 4, 2) := by decide +kernel
theorem dX1_load_133 : decode cX1_load 133 = .ok (.iastore, 1) := by decide +kernel
theorem dX1_load_134 : decode cX1_load 134 = .ok (.iinc 5 (-1), 3) := by decide +kernel
theorem dX1_load_137 : decode cX1_load 137 = .ok (.goto (-115), 3) := by decide +kernel
theorem dX1_load_140 : decode cX1_load 140 = .ok (.return_, 1) := by decide +kernel
set_option maxRecDepth 20000 in
theorem ggX1_sumBySearch_J7_fill_53178 : GoodIn wsX1_sumBySearch wsJ7_fill_53178 := goodIn_r _ [6] (by decide +kernel) (by decide +kernel)
set_option maxRecDepth 20000 in
theorem gX1_sumBySearch_J7_fill_53178 : GoodIn wsX1_sumBySearch (va_wsS RX1 59 yJ7_fill_53178 wsJ7_fill_53178) := goodIn_app (goodIn_of _ (by decide +kernel)) ggX1_sumBySearch_J7_fill_53178
set_option maxRecDepth 20000 in
theorem ggX1_sumBySearch_X1_search : GoodIn wsX1_sumBySearch wsX1_search := goodIn_r _ [10, 11, 12, 13, 14, 15, 16, 1, 17, 18, 19, 20, 21, 22, 9, 23, 2, 24, 25, 26, 27, 7, 8, 28, 29, 30, 31, 32, 33, 34, 35] (by decide +kernel) (by decide +kernel)
set_option maxRecDepth 20000 in
theorem gX1_sumBySearch_X1_search : GoodIn wsX1_sumBySearch (va_wsS RX1 65 yX1_search wsX1_search) := goodIn_app (goodIn_of _ (by decide +kernel)) ggX1_sumBySearch_X1_search
theorem dX1_sumBySearch_0 : decode cX1_sumBySearch 0 = .ok (.aload_n 0, 1) := by decide +kernel
theorem dX1_sumBySearch_1 : decode cX1_sumBySearch 1 = .ok (.iconst 0, 1) := by decide +kernel
theorem dX1_sumBySearch_2 : decode cX1_sumBySearch 2 = .ok (.putfield 56, 3) := by decide +kernel
theorem dX1_sumBySearch_5 : decode cX1_sumBySearch 5 = .ok (.aload_n 0, 1) := by decide +kernel
theorem dX1_sumBySearch_6 : decode cX1_sumBySearch 6 = .ok (.getfield 9, 3) := by decide +kernel
theorem dX1_sumBySearch_9 : decode cX1_sumBySearch 9 = .ok (.iconst 0, 1) := by decide +kernel
theorem dX1_sumBySearch_10 : decode cX1_sumBySearch 10 = .ok (.invokestatic 59, 3) := by decide +kernel
theorem dX1_sumBySearch_13 : decode cX1_sumBySearch 13 = .ok (.aload_n 0, 1) := by decide +kernel
theorem dX1_sumBySearch_14 : decode cX1_sumBySearch 14 = .ok (.iconst 0, 1) := by decide +kernel
theorem dX1_sumBySearch_15 : decode cX1_sumBySearch 15 = .ok (.bipush 6, 2) := by decide +kernel
theorem dX1_sumBySearch_17 : decode cX1_sumBySearch 17 = .ok (.iconst 0, 1) := by decide +kernel
theorem dX1_sumBySearch_18 : decode cX1_sumBySearch 18 = .ok (.invokestatic 65, 3) := by decide +kernel
theorem dX1_sumBySearch_21 : decode cX1_sumBySearch 21 = .ok (.aload_n 0, 1) := by decide +kernel
theorem dX1_sumBySearch_22 : decode cX1_sumBySearch 22 = .ok (.getfield 56, 3) := by decide +kernel
theorem dX1_sumBySearch_25 : decode cX1_sumBySearch 25 = .ok (.ireturn, 1) := by decide +kernel
set_option maxRecDepth 20000 in
theorem ggX1_search_X1_keepIfGreater : GoodIn wsX1_search wsX1_keepIfGreater := goodIn_r _ [15, 7, 10, 16, 17, 18, 19, 20, 23, 24, 25, 26, 27, 28, 29, 30] (by decide +kernel) (by decide +kernel)
set_option maxRecDepth 20000 in
theorem gX1_search_X1_keepIfGreater : GoodIn wsX1_search (wsV RX1 69 RX1 yX1_keepIfGreater wsX1_keepIfGreater) := goodIn_app (goodIn_of _ (by decide +kernel)) ggX1_search_X1_keepIfGreater
set_option maxRecDepth 20000 in
theorem ggX1_search_X1_search : GoodIn wsX1_search wsX1_search := goodIn_r _ [0, 1, 2, 3, 4, 5, 6, 7, 8, 9, 10, 11, 12, 13, 14, 15, 16, 17, 18, 19, 20, 21, 22, 23, 24, 25, 26, 27, 28, 29, 30] (by decide +kernel) (by decide +kernel)
set_option maxRecDepth 20000 in
theorem gX1_search_X1_search : GoodIn wsX1_search (va_wsS RX1 65 yX1_search wsX1_search) := goodIn_app (goodIn_of _ (by decide +kernel)) ggX1_search_X1_search
theorem dX1_search_0 : decode cX1_search 0 = .ok (.iload_n 1, 1) := by decide +kernel
theorem dX1_search_1 : decode cX1_search 1 = .ok (.ifCond .lt 9, 3) := by decide +kernel
theorem dX1_search_4 : decode cX1_search 4 = .ok (.iload_n 1, 1) := by decide +kernel
theorem dX1_search_5 : decode cX1_search 5 = .ok (.bipush 10, 2) := by decide +kernel
theorem dX1_search_7 : decode cX1_search 7 = .ok (.if_icmp .lt 9, 3) := by decide +kernel
theorem dX1_search_10 : decode cX1_search 10 = .ok (.aload_n 0, 1) := by decide +kernel
theorem dX1_search_11 : decode cX1_search 11 = .ok (.iload_n 3, 1) := by decide +kernel
theorem dX1_search_12 : decode cX1_search 12 = .ok (.invokevirtual 69, 3) := by decide +kernel
theorem dX1_search_15 : decode cX1_search 15 = .ok (.return_, 1) := by decide +kernel
theorem dX1_search_16 : decode cX1_search 16 = .ok (.iload_n 2, 1) := by decide +kernel
theorem dX1_search_17 : decode cX1_search 17 = .ok (.aload_n 0, 1) := by decide +kernel
theorem dX1_search_18 : decode cX1_search 18 = .ok (.getfield 24, 3) := by decide +kernel
theorem dX1_search_21 : decode cX1_search 21 = .ok (.iload_n 1, 1) := by decide +kernel
theorem dX1_search_22 : decode cX1_search 22 = .ok (.iaload, 1) := by decide +kernel
theorem dX1_search_23 : decode cX1_search 23 = .ok (.imul, 1) := by decide +kernel
theorem dX1_search_24 : decode cX1_search 24 = .ok (.aload_n 0, 1) := by decide +kernel
theorem dX1_search_25 : decode cX1_search 25 = .ok (.getfield 39, 3) := by decide +kernel
theorem dX1_search_28 : decode cX1_search 28 = .ok (.iload_n 3, 1) := by decide +kernel
theorem dX1_search_29 : decode cX1_search 29 = .ok (.isub, 1) := by decide +kernel
theorem dX1_search_30 : decode cX1_search 30 = .ok (.invokestatic 30, 3) := by decide +kernel
theorem dX1_search_33 : decode cX1_search 33 = .ok (.istore 4, 2) := by decide +kernel
theorem dX1_search_35 : decode cX1_search 35 = .ok (.iload_n 3, 1) := by decide +kernel
theorem dX1_search_36 : decode cX1_search 36 = .ok (.iload 4, 2) := by decide +kernel
theorem dX1_search_38 : decode cX1_search 38 = .ok (.iadd, 1) := by decide +kernel
theorem dX1_search_39 : decode cX1_search 39 = .ok (.aload_n 0, 1) := by decide +kernel
theorem dX1_search_40 : decode cX1_search 40 = .ok (.getfield 56, 3) := by decide +kernel
theorem dX1_search_43 : decode cX1_search 43 = .ok (.if_icmp .gt 4, 3) := by decide +kernel
theorem dX1_search_46 : decode cX1_search 46 = .ok (.return_, 1) := by decide +kernel
theorem dX1_search_47 : decode cX1_search 47 = .ok (.aload_n 0, 1) := by decide +kernel
theorem dX1_search_48 : decode cX1_search 48 = .ok (.getfield 21, 3) := by decide +kernel
theorem dX1_search_51 : decode cX1_search 51 = .ok (.iload_n 1, 1) := by decide +kernel
theorem dX1_search_52 : decode cX1_search 52 = .ok (.iaload, 1) := by decide +kernel
theorem dX1_search_53 : decode cX1_search 53 = .ok (.iload_n 2, 1) := by decide +kernel
theorem dX1_search_54 : decode cX1_search 54 = .ok (.invokestatic 30, 3) := by decide +kernel
theorem dX1_search_57 : decode cX1_search 57 = .ok (.istore 5, 2) := by decide +kernel
theorem dX1_search_59 : decode cX1_search 59 = .ok (.iload 5, 2) := by decide +kernel
theorem dX1_search_61 : decode cX1_search 61 = .ok (.ifCond .lt 52, 3) := by decide +kernel
theorem dX1_search_64 : decode cX1_search 64 = .ok (.iload_n 3, 1) := by decide +kernel
theorem dX1_search_65 : decode cX1_search 65 = .ok (.iload 5, 2) := by decide +kernel
theorem dX1_search_67 : decode cX1_search 67 = .ok (.aload_n 0, 1) := by decide +kernel
theorem dX1_search_68 : decode cX1_search 68 = .ok (.getfield 18, 3) := by decide +kernel
theorem dX1_search_71 : decode cX1_search 71 = .ok (.iload_n 1, 1) := by decide +kernel
theorem dX1_search_72 : decode cX1_search 72 = .ok (.iaload, 1) := by decide +kernel
theorem dX1_search_73 : decode cX1_search 73 = .ok (.imul, 1) := by decide +kernel
theorem dX1_search_74 : decode cX1_search 74 = .ok (.iadd, 1) := by decide +kernel
theorem dX1_search_75 : decode cX1_search 75 = .ok (.istore 6, 2) := by decide +kernel
theorem dX1_search_77 : decode cX1_search 77 = .ok (.iload 6, 2) := by decide +kernel
theorem dX1_search_79 : decode cX1_search 79 = .ok (.aload_n 0, 1) := by decide +kernel
theorem dX1_search_80 : decode cX1_search 80 = .ok (.getfield 39, 3) := by decide +kernel
theorem dX1_search_83 : decode cX1_search 83 = .ok (.if_icmp .gt 24, 3) := by decide +kernel
theorem dX1_search_86 : decode cX1_search 86 = .ok (.aload_n 0, 1) := by decide +kernel
theorem dX1_search_87 : decode cX1_search 87 = .ok (.getfield 15, 3) := by decide +kernel
theorem dX1_search_90 : decode cX1_search 90 = .ok (.iload_n 1, 1) := by decide +kernel
theorem dX1_search_91 : decode cX1_search 91 = .ok (.iload 5, 2) := by decide +kernel
theorem dX1_search_93 : decode cX1_search 93 = .ok (.iastore, 1) := by decide +kernel
theorem dX1_search_94 : decode cX1_search 94 = .ok (.aload_n 0, 1) := by decide +kernel
theorem dX1_search_95 : decode cX1_search 95 = .ok (.iload_n 1, 1) := by decide +kernel
theorem dX1_search_96 : decode cX1_search 96 = .ok (.iconst 1, 1) := by decide +kernel
theorem dX1_search_97 : decode cX1_search 97 = .ok (.iadd, 1) := by decide +kernel
theorem dX1_search_98 : decode cX1_search 98 = .ok (.iload_n 2, 1) := by decide +kernel
theorem dX1_search_99 : decode cX1_search 99 = .ok (.iload 5, 2) := by decide +kernel
theorem dX1_search_101 : decode cX1_search 101 = .ok (.isub, 1) := by decide +kernel
theorem dX1_search_102 : decode cX1_search 102 = .ok (.iload 6, 2) := by decide +kernel
theorem dX1_search_104 : decode cX1_search 104 = .ok (.invokestatic 65, 3) := by decide +kernel
theorem dX1_search_107 : decode cX1_search 107 = .ok (.iinc 5 (-1), 3) := by decide +kernel
theorem dX1_search_110 : decode cX1_search 110 = .ok (.goto (-51), 3) := by decide +kernel
theorem dX1_search_113 : decode cX1_search 113 = .ok (.return_, 1) := by decide +kernel
theorem dX1_keepIfGreater_0 : decode cX1_keepIfGreater 0 = .ok (.iload_n 1, 1) := by decide +kernel
theorem dX1_keepIfGreater_1 : decode cX1_keepIfGreater 1 = .ok (.aload_n 0, 1) := by decide +kernel
theorem dX1_keepIfGreater_2 : decode cX1_keepIfGreater 2 = .ok (.getfield 56, 3) := by decide +kernel
theorem dX1_keepIfGreater_5 : decode cX1_keepIfGreater 5 = .ok (.if_icmp .le 23, 3) := by decide +kernel
theorem dX1_keepIfGreater_8 : decode cX1_keepIfGreater 8 = .ok (.aload_n 0, 1) := by decide +kernel
theorem dX1_keepIfGreater_9 : decode cX1_keepIfGreater 9 = .ok (.iload_n 1, 1) := by decide +kernel
theorem dX1_keepIfGreater_10 : decode cX1_keepIfGreater 10 = .ok (.putfield 56, 3) := by decide +kernel
theorem dX1_keepIfGreater_13 : decode cX1_keepIfGreater 13 = .ok (.aload_n 0, 1) := by decide +kernel
theorem dX1_keepIfGreater_14 : decode cX1_keepIfGreater 14 = .ok (.getfield 15, 3) := by decide +kernel
theorem dX1_keepIfGreater_17 : decode cX1_keepIfGreater 17 = .ok (.iconst 0, 1) := by decide +kernel
theorem dX1_keepIfGreater_18 : decode cX1_keepIfGreater 18 = .ok (.aload_n 0, 1) := by decide +kernel
theorem dX1_keepIfGreater_19 : decode cX1_keepIfGreater 19 = .ok (.getfield 9, 3) := by decide +kernel
theorem dX1_keepIfGreater_22 : decode cX1_keepIfGreater 22 = .ok (.iconst 0, 1) := by decide +kernel
theorem dX1_keepIfGreater_23 : decode cX1_keepIfGreater 23 = .ok (.bipush 10, 2) := by decide +kernel
theorem dX1_keepIfGreater_25 : decode cX1_keepIfGreater 25 = .ok (.invokestatic 73, 3) := by decide +kernel
theorem dX1_keepIfGreater_28 : decode cX1_keepIfGreater 28 = .ok (.return_, 1) := by decide +kernel
theorem dX2_init_0 : decode cX2_init 0 = .ok (.aload_n 0, 1) := by decide +kernel
theorem dX2_init_1 : decode cX2_init 1 = .ok (.invokespecial 3, 3) := by decide +kernel
theorem dX2_init_4 : decode cX2_init 4 = .ok (.aload_n 0, 1) := by decide +kernel
theorem dX2_init_5 : decode cX2_init 5 = .ok (.sipush 400, 3) := by decide +kernel
theorem dX2_init_8 : decode cX2_init 8 = .ok (.newarray .char, 2) := by decide +kernel
theorem dX2_init_10 : decode cX2_init 10 = .ok (.putfield 9, 3) := by decide +kernel
theorem dX2_init_13 : decode cX2_init 13 = .ok (.aload_n 0, 1) := by decide +kernel
theorem dX2_init_14 : decode cX2_init 14 = .ok (.sipush 400, 3) := by decide +kernel
theorem dX2_init_17 : decode cX2_init 17 = .ok (.newarray .int, 2) := by decide +kernel
theorem dX2_init_19 : decode cX2_init 19 = .ok (.putfield 15, 3) := by decide +kernel
theorem dX2_init_22 : decode cX2_init 22 = .ok (.aload_n 0, 1) := by decide +kernel
theorem dX2_init_23 : decode cX2_init 23 = .ok (.sipush 400, 3) := by decide +kernel
theorem dX2_init_26 : decode cX2_init 26 = .ok (.newarray .int, 2) := by decide +kernel
theorem dX2_init_28 : decode cX2_init 28 = .ok (.putfield 19, 3) := by decide +kernel
theorem dX2_init_31 : decode cX2_init 31 = .ok (.aload_n 0, 1) := by decide +kernel
theorem dX2_init_32 : decode cX2_init 32 = .ok (.sipush 400, 3) := by decide +kernel
theorem dX2_init_35 : decode cX2_init 35 = .ok (.newarray .int, 2) := by decide +kernel
theorem dX2_init_37 : decode cX2_init 37 = .ok (.putfield 22, 3) := by decide +kernel
theorem dX2_init_40 : decode cX2_init 40 = .ok (.return_, 1) := by decide +kernel
theorem dX2_has_0 : decode cX2_has 0 = .ok (.iload_n 1, 1) := by decide +kernel
theorem dX2_has_1 : decode cX2_has 1 = .ok (.ifCond .lt 15, 3) := by decide +kernel
theorem dX2_has_4 : decode cX2_has 4 = .ok (.iload_n 1, 1) := by decide +kernel
theorem dX2_has_5 : decode cX2_has 5 = .ok (.aload_n 0, 1) := by decide +kernel
theorem dX2_has_6 : decode cX2_has 6 = .ok (.getfield 25, 3) := by decide +kernel
theorem dX2_has_9 : decode cX2_has 9 = .ok (.if_icmp .ge 7, 3) := by decide +kernel
theorem dX2_has_12 : decode cX2_has 12 = .ok (.iconst 1, 1) := by decide +kernel
theorem dX2_has_13 : decode cX2_has 13 = .ok (.goto 4, 3) := by decide +kernel
theorem dX2_has_16 : decode cX2_has 16 = .ok (.iconst 0, 1) := by decide +kernel
theorem dX2_has_17 : decode cX2_has 17 = .ok (.ireturn, 1) := by decide +kernel
set_option maxRecDepth 20000 in
theorem ggX2_writeNothing_X2_writeMade : GoodIn wsX2_writeNothing wsX2_writeMade := goodIn_r _ [5, 6, 7, 8, 9, 10, 11, 12, 13, 14, 15, 16, 17, 18, 19, 20, 21, 22, 23, 24] (by decide +kernel) (by decide +kernel)
set_option maxRecDepth 20000 in
theorem gX2_writeNothing_X2_writeMade : GoodIn wsX2_writeNothing (wsV RX2 29 RX2 yX2_writeMade wsX2_writeMade) := goodIn_app (goodIn_of _ (by decide +kernel)) ggX2_writeNothing_X2_writeMade
theorem dX2_writeNothing_0 : decode cX2_writeNothing 0 = .ok (.aload_n 0, 1) := by decide +kernel
theorem dX2_writeNothing_1 : decode cX2_writeNothing 1 = .ok (.bipush 110, 2) := by decide +kernel
theorem dX2_writeNothing_3 : decode cX2_writeNothing 3 = .ok (.iconst 0, 1) := by decide +kernel
theorem dX2_writeNothing_4 : decode cX2_writeNothing 4 = .ok (.iconst 0, 1) := by decide +kernel
theorem dX2_writeNothing_5 : decode cX2_writeNothing 5 = .ok (.iconst 0, 1) := by decide +kernel
theorem dX2_writeNothing_6 : decode cX2_writeNothing 6 = .ok (.invokevirtual 29, 3) := by decide +kernel
theorem dX2_writeNothing_9 : decode cX2_writeNothing 9 = .ok (.return_, 1) := by decide +kernel
theorem dX2_writeMade_0 : decode cX2_writeMade 0 = .ok (.aload_n 0, 1) := by decide +kernel
theorem dX2_writeMade_1 : decode cX2_writeMade 1 = .ok (.getfield 25, 3) := by decide +kernel
theorem dX2_writeMade_4 : decode cX2_writeMade 4 = .ok (.ifCond .lt 13, 3) := by decide +kernel
theorem dX2_writeMade_7 : decode cX2_writeMade 7 = .ok (.aload_n 0, 1) := by decide +kernel
theorem dX2_writeMade_8 : decode cX2_writeMade 8 = .ok (.getfield 25, 3) := by decide +kernel
theorem dX2_writeMade_11 : decode cX2_writeMade 11 = .ok (.sipush 400, 3) := by decide +kernel
theorem dX2_writeMade_14 : decode cX2_writeMade 14 = .ok (.if_icmp .lt 4, 3) := by decide +kernel
theorem dX2_writeMade_17 : decode cX2_writeMade 17 = .ok (.return_, 1) := by decide +kernel
theorem dX2_writeMade_18 : decode cX2_writeMade 18 = .ok (.aload_n 0, 1) := by decide +kernel
theorem dX2_writeMade_19 : decode cX2_writeMade 19 = .ok (.getfield 9, 3) := by decide +kernel
theorem dX2_writeMade_22 : decode cX2_writeMade 22 = .ok (.aload_n 0, 1) := by decide +kernel
theorem dX2_writeMade_23 : decode cX2_writeMade 23 = .ok (.getfield 25, 3) := by decide +kernel
theorem dX2_writeMade_26 : decode cX2_writeMade 26 = .ok (.iload_n 1, 1) := by decide +kernel
theorem dX2_writeMade_27 : decode cX2_writeMade 27 = .ok (.castore, 1) := by decide +kernel
theorem dX2_writeMade_28 : decode cX2_writeMade 28 = .ok (.aload_n 0, 1) := by decide +kernel
theorem dX2_writeMade_29 : decode cX2_writeMade 29 = .ok (.getfield 15, 3) := by decide +kernel
theorem dX2_writeMade_32 : decode cX2_writeMade 32 = .ok (.aload_n 0, 1) := by decide +kernel
theorem dX2_writeMade_33 : decode cX2_writeMade 33 = .ok (.getfield 25, 3) := by decide +kernel
theorem dX2_writeMade_36 : decode cX2_writeMade 36 = .ok (.iload_n 2, 1) := by decide +kernel
theorem dX2_writeMade_37 : decode cX2_writeMade 37 = .ok (.iastore, 1) := by decide +kernel
theorem dX2_writeMade_38 : decode cX2_writeMade 38 = .ok (.aload_n 0, 1) := by decide +kernel
theorem dX2_writeMade_39 : decode cX2_writeMade 39 = .ok (.getfield 19, 3) := by decide +kernel
theorem dX2_writeMade_42 : decode cX2_writeMade 42 = .ok (.aload_n 0, 1) := by decide +kernel
theorem dX2_writeMade_43 : decode cX2_writeMade 43 = .ok (.getfield 25, 3) := by decide +kernel
theorem dX2_writeMade_46 : decode cX2_writeMade 46 = .ok (.iload_n 3, 1) := by decide +kernel
theorem dX2_writeMade_47 : decode cX2_writeMade 47 = .ok (.iastore, 1) := by decide +kernel
theorem dX2_writeMade_48 : decode cX2_writeMade 48 = .ok (.aload_n 0, 1) := by decide +kernel
theorem dX2_writeMade_49 : decode cX2_writeMade 49 = .ok (.getfield 22, 3) := by decide +kernel
theorem dX2_writeMade_52 : decode cX2_writeMade 52 = .ok (.aload_n 0, 1) := by decide +kernel
theorem dX2_writeMade_53 : decode cX2_writeMade 53 = .ok (.getfield 25, 3) := by decide +kernel
theorem dX2_writeMade_56 : decode cX2_writeMade 56 = .ok (.iload 4, 2) := by decide +kernel
theorem dX2_writeMade_58 : decode cX2_writeMade 58 = .ok (.iastore, 1) := by decide +kernel
theorem dX2_writeMade_59 : decode cX2_writeMade 59 = .ok (.aload_n 0, 1) := by decide +kernel
theorem dX2_writeMade_60 : decode cX2_writeMade 60 = .ok (.dup, 1) := by decide +kernel
theorem dX2_writeMade_61 : decode cX2_writeMade 61 = .ok (.getfield 25, 3) := by decide +kernel
theorem dX2_writeMade_64 : decode cX2_writeMade 64 = .ok (.iconst 1, 1) := by decide +kernel
theorem dX2_writeMade_65 : decode cX2_writeMade 65 = .ok (.iadd, 1) := by decide +kernel
theorem dX2_writeMade_66 : decode cX2_writeMade 66 = .ok (.putfield 25, 3) := by decide +kernel
theorem dX2_writeMade_69 : decode cX2_writeMade 69 = .ok (.aload_n 0, 1) := by decide +kernel
theorem dX2_writeMade_70 : decode cX2_writeMade 70 = .ok (.dup, 1) := by decide +kernel
theorem dX2_writeMade_71 : decode cX2_writeMade 71 = .ok (.getfield 33, 3) := by decide +kernel
theorem dX2_writeMade_74 : decode cX2_writeMade 74 = .ok (.iload_n 2, 1) := by decide +kernel
theorem dX2_writeMade_75 : decode cX2_writeMade 75 = .ok (.i2l, 1) := by decide +kernel
theorem dX2_writeMade_76 : decode cX2_writeMade 76 = .ok (.ladd, 1) := by decide +kernel
theorem dX2_writeMade_77 : decode cX2_writeMade 77 = .ok (.putfield 33, 3) := by decide +kernel
theorem dX2_writeMade_80 : decode cX2_writeMade 80 = .ok (.aload_n 0, 1) := by decide +kernel
theorem dX2_writeMade_81 : decode cX2_writeMade 81 = .ok (.dup, 1) := by decide +kernel
theorem dX2_writeMade_82 : decode cX2_writeMade 82 = .ok (.getfield 37, 3) := by decide +kernel
theorem dX2_writeMade_85 : decode cX2_writeMade 85 = .ok (.iload_n 3, 1) := by decide +kernel
theorem dX2_writeMade_86 : decode cX2_writeMade 86 = .ok (.i2l, 1) := by decide +kernel
theorem dX2_writeMade_87 : decode cX2_writeMade 87 = .ok (.ladd, 1) := by decide +kernel
theorem dX2_writeMade_88 : decode cX2_writeMade 88 = .ok (.putfield 37, 3) := by decide +kernel
theorem dX2_writeMade_91 : decode cX2_writeMade 91 = .ok (.aload_n 0, 1) := by decide +kernel
theorem dX2_writeMade_92 : decode cX2_writeMade 92 = .ok (.dup, 1) := by decide +kernel
theorem dX2_writeMade_93 : decode cX2_writeMade 93 = .ok (.getfield 40, 3) := by decide +kernel
theorem dX2_writeMade_96 : decode cX2_writeMade 96 = .ok (.iload 4, 2) := by decide +kernel
theorem dX2_writeMade_98 : decode cX2_writeMade 98 = .ok (.i2l, 1) := by decide +kernel
theorem dX2_writeMade_99 : decode cX2_writeMade 99 = .ok (.ladd, 1) := by decide +kernel
theorem dX2_writeMade_100 : decode cX2_writeMade 100 = .ok (.putfield 40, 3) := by decide +kernel
theorem dX2_writeMade_103 : decode cX2_writeMade 103 = .ok (.return_, 1) := by decide +kernel
theorem dX2_writeTrim_0 : decode cX2_writeTrim 0 = .ok (.aload_n 0, 1) := by decide +kernel
theorem dX2_writeTrim_1 : decode cX2_writeTrim 1 = .ok (.dup, 1) := by decide +kernel
theorem dX2_writeTrim_2 : decode cX2_writeTrim 2 = .ok (.getfield 43, 3) := by decide +kernel
theorem dX2_writeTrim_5 : decode cX2_writeTrim 5 = .ok (.iload_n 1, 1) := by decide +kernel
theorem dX2_writeTrim_6 : decode cX2_writeTrim 6 = .ok (.i2l, 1) := by decide +kernel
theorem dX2_writeTrim_7 : decode cX2_writeTrim 7 = .ok (.ladd, 1) := by decide +kernel
theorem dX2_writeTrim_8 : decode cX2_writeTrim 8 = .ok (.putfield 43, 3) := by decide +kernel
theorem dX2_writeTrim_11 : decode cX2_writeTrim 11 = .ok (.aload_n 0, 1) := by decide +kernel
theorem dX2_writeTrim_12 : decode cX2_writeTrim 12 = .ok (.dup, 1) := by decide +kernel
theorem dX2_writeTrim_13 : decode cX2_writeTrim 13 = .ok (.getfield 46, 3) := by decide +kernel
theorem dX2_writeTrim_16 : decode cX2_writeTrim 16 = .ok (.iconst 1, 1) := by decide +kernel
theorem dX2_writeTrim_17 : decode cX2_writeTrim 17 = .ok (.iadd, 1) := by decide +kernel
theorem dX2_writeTrim_18 : decode cX2_writeTrim 18 = .ok (.putfield 46, 3) := by decide +kernel
theorem dX2_writeTrim_21 : decode cX2_writeTrim 21 = .ok (.return_, 1) := by decide +kernel
theorem dX2_fibreStillThere_0 : decode cX2_fibreStillThere 0 = .ok (.iconst 0, 1) := by decide +kernel
theorem dX2_fibreStillThere_1 : decode cX2_fibreStillThere 1 = .ok (.istore_n 1, 1) := by decide +kernel
theorem dX2_fibreStillThere_2 : decode cX2_fibreStillThere 2 = .ok (.iconst 0, 1) := by decide +kernel
theorem dX2_fibreStillThere_3 : decode cX2_fibreStillThere 3 = .ok (.istore_n 2, 1) := by decide +kernel
theorem dX2_fibreStillThere_4 : decode cX2_fibreStillThere 4 = .ok (.iload_n 2, 1) := by decide +kernel
theorem dX2_fibreStillThere_5 : decode cX2_fibreStillThere 5 = .ok (.aload_n 0, 1) := by decide +kernel
theorem dX2_fibreStillThere_6 : decode cX2_fibreStillThere 6 = .ok (.getfield 25, 3) := by decide +kernel
theorem dX2_fibreStillThere_9 : decode cX2_fibreStillThere 9 = .ok (.if_icmp .ge 32, 3) := by decide +kernel
theorem dX2_fibreStillThere_12 : decode cX2_fibreStillThere 12 = .ok (.iload_n 1, 1) := by decide +kernel
theorem dX2_fibreStillThere_13 : decode cX2_fibreStillThere 13 = .ok (.aload_n 0, 1) := by decide +kernel
theorem dX2_fibreStillThere_14 : decode cX2_fibreStillThere 14 = .ok (.getfield 15, 3) := by decide +kernel
theorem dX2_fibreStillThere_17 : decode cX2_fibreStillThere 17 = .ok (.iload_n 2, 1) := by decide +kernel
theorem dX2_fibreStillThere_18 : decode cX2_fibreStillThere 18 = .ok (.iaload, 1) := by decide +kernel
theorem dX2_fibreStillThere_19 : decode cX2_fibreStillThere 19 = .ok (.aload_n 0, 1) := by decide +kernel
theorem dX2_fibreStillThere_20 : decode cX2_fibreStillThere 20 = .ok (.getfield 19, 3) := by decide +kernel
theorem dX2_fibreStillThere_23 : decode cX2_fibreStillThere 23 = .ok (.iload_n 2, 1) := by decide +kernel
theorem dX2_fibreStillThere_24 : decode cX2_fibreStillThere 24 = .ok (.iaload, 1) := by decide +kernel
theorem dX2_fibreStillThere_25 : decode cX2_fibreStillThere 25 = .ok (.isub, 1) := by decide +kernel
theorem dX2_fibreStillThere_26 : decode cX2_fibreStillThere 26 = .ok (.aload_n 0, 1) := by decide +kernel
theorem dX2_fibreStillThere_27 : decode cX2_fibreStillThere 27 = .ok (.getfield 22, 3) := by decide +kernel
theorem dX2_fibreStillThere_30 : decode cX2_fibreStillThere 30 = .ok (.iload_n 2, 1) := by decide +kernel
theorem dX2_fibreStillThere_31 : decode cX2_fibreStillThere 31 = .ok (.iaload, 1) := by decide +kernel
theorem dX2_fibreStillThere_32 : decode cX2_fibreStillThere 32 = .ok (.isub, 1) := by decide +kernel
theorem dX2_fibreStillThere_33 : decode cX2_fibreStillThere 33 = .ok (.iadd, 1) := by decide +kernel
theorem dX2_fibreStillThere_34 : decode cX2_fibreStillThere 34 = .ok (.istore_n 1, 1) := by decide +kernel
theorem dX2_fibreStillThere_35 : decode cX2_fibreStillThere 35 = .ok (.iinc 2 1, 3) := by decide +kernel
theorem dX2_fibreStillThere_38 : decode cX2_fibreStillThere 38 = .ok (.goto (-34), 3) := by decide +kernel
theorem dX2_fibreStillThere_41 : decode cX2_fibreStillThere 41 = .ok (.iload_n 1, 1) := by decide +kernel
theorem dX2_fibreStillThere_42 : decode cX2_fibreStillThere 42 = .ok (.ireturn, 1) := by decide +kernel
theorem dX3_init_0 : decode cX3_init 0 = .ok (.aload_n 0, 1) := by decide +kernel
theorem dX3_init_1 : decode cX3_init 1 = .ok (.invokespecial 3, 3) := by decide +kernel
theorem dX3_init_4 : decode cX3_init 4 = .ok (.aload_n 0, 1) := by decide +kernel
theorem dX3_init_5 : decode cX3_init 5 = .ok (.bipush 10, 2) := by decide +kernel
theorem dX3_init_7 : decode cX3_init 7 = .ok (.newarray .int, 2) := by decide +kernel
theorem dX3_init_9 : decode cX3_init 9 = .ok (.putfield 9, 3) := by decide +kernel
theorem dX3_init_12 : decode cX3_init 12 = .ok (.aload_n 0, 1) := by decide +kernel
theorem dX3_init_13 : decode cX3_init 13 = .ok (.bipush 10, 2) := by decide +kernel
theorem dX3_init_15 : decode cX3_init 15 = .ok (.newarray .int, 2) := by decide +kernel
theorem dX3_init_17 : decode cX3_init 17 = .ok (.putfield 15, 3) := by decide +kernel
theorem dX3_init_20 : decode cX3_init 20 = .ok (.aload_n 0, 1) := by decide +kernel
theorem dX3_init_21 : decode cX3_init 21 = .ok (.bipush 10, 2) := by decide +kernel
theorem dX3_init_23 : decode cX3_init 23 = .ok (.newarray .int, 2) := by decide +kernel
theorem dX3_init_25 : decode cX3_init 25 = .ok (.putfield 18, 3) := by decide +kernel
theorem dX3_init_28 : decode cX3_init 28 = .ok (.aload_n 0, 1) := by decide +kernel
theorem dX3_init_29 : decode cX3_init 29 = .ok (.bipush 10, 2) := by decide +kernel
theorem dX3_init_31 : decode cX3_init 31 = .ok (.newarray .int, 2) := by decide +kernel
theorem dX3_init_33 : decode cX3_init 33 = .ok (.putfield 21, 3) := by decide +kernel
theorem dX3_init_36 : decode cX3_init 36 = .ok (.return_, 1) := by decide +kernel
theorem dX3_has_0 : decode cX3_has 0 = .ok (.iload_n 1, 1) := by decide +kernel
theorem dX3_has_1 : decode cX3_has 1 = .ok (.ifCond .lt 15, 3) := by decide +kernel
theorem dX3_has_4 : decode cX3_has 4 = .ok (.iload_n 1, 1) := by decide +kernel
theorem dX3_has_5 : decode cX3_has 5 = .ok (.aload_n 0, 1) := by decide +kernel
theorem dX3_has_6 : decode cX3_has 6 = .ok (.getfield 24, 3) := by decide +kernel
theorem dX3_has_9 : decode cX3_has 9 = .ok (.if_icmp .ge 7, 3) := by decide +kernel
theorem dX3_has_12 : decode cX3_has 12 = .ok (.iconst 1, 1) := by decide +kernel
theorem dX3_has_13 : decode cX3_has 13 = .ok (.goto 4, 3) := by decide +kernel
theorem dX3_has_16 : decode cX3_has 16 = .ok (.iconst 0, 1) := by decide +kernel
theorem dX3_has_17 : decode cX3_has 17 = .ok (.ireturn, 1) := by decide +kernel
theorem dX3_isFull_0 : decode cX3_isFull 0 = .ok (.aload_n 0, 1) := by decide +kernel
theorem dX3_isFull_1 : decode cX3_isFull 1 = .ok (.getfield 24, 3) := by decide +kernel
theorem dX3_isFull_4 : decode cX3_isFull 4 = .ok (.bipush 10, 2) := by decide +kernel
theorem dX3_isFull_6 : decode cX3_isFull 6 = .ok (.if_icmp .lt 7, 3) := by decide +kernel
theorem dX3_isFull_9 : decode cX3_isFull 9 = .ok (.iconst 1, 1) := by decide +kernel
theorem dX3_isFull_10 : decode cX3_isFull 10 = .ok (.goto 4, 3) := by decide +kernel
theorem dX3_isFull_13 : decode cX3_isFull 13 = .ok (.iconst 0, 1) := by decide +kernel
theorem dX3_isFull_14 : decode cX3_isFull 14 = .ok (.ireturn, 1) := by decide +kernel
set_option maxRecDepth 20000 in
theorem ggX3_write_X3_isFull : GoodIn wsX3_write wsX3_isFull := goodIn_r _ [10, 1, 11, 12, 13, 14, 15] (by decide +kernel) (by decide +kernel)
set_option maxRecDepth 20000 in
theorem gX3_write_X3_isFull : GoodIn wsX3_write (wsV RX3 28 RX3 yX3_isFull wsX3_isFull) := goodIn_app (goodIn_of _ (by decide +kernel)) ggX3_write_X3_isFull
theorem dX3_write_0 : decode cX3_write 0 = .ok (.aload_n 0, 1) := by decide +kernel
theorem dX3_write_1 : decode cX3_write 1 = .ok (.invokevirtual 28, 3) := by decide +kernel
theorem dX3_write_4 : decode cX3_write 4 = .ok (.ifCond .eq 5, 3) := by decide +kernel
theorem dX3_write_7 : decode cX3_write 7 = .ok (.iconst (-1), 1) := by decide +kernel
theorem dX3_write_8 : decode cX3_write 8 = .ok (.ireturn, 1) := by decide +kernel
theorem dX3_write_9 : decode cX3_write 9 = .ok (.aload_n 0, 1) := by decide +kernel
theorem dX3_write_10 : decode cX3_write 10 = .ok (.getfield 24, 3) := by decide +kernel
theorem dX3_write_13 : decode cX3_write 13 = .ok (.istore 4, 2) := by decide +kernel
theorem dX3_write_15 : decode cX3_write 15 = .ok (.aload_n 0, 1) := by decide +kernel
theorem dX3_write_16 : decode cX3_write 16 = .ok (.getfield 9, 3) := by decide +kernel
theorem dX3_write_19 : decode cX3_write 19 = .ok (.iload 4, 2) := by decide +kernel
theorem dX3_write_21 : decode cX3_write 21 = .ok (.iload_n 1, 1) := by decide +kernel
theorem dX3_write_22 : decode cX3_write 22 = .ok (.iastore, 1) := by decide +kernel
theorem dX3_write_23 : decode cX3_write 23 = .ok (.aload_n 0, 1) := by decide +kernel
theorem dX3_write_24 : decode cX3_write 24 = .ok (.getfield 15, 3) := by decide +kernel
theorem dX3_write_27 : decode cX3_write 27 = .ok (.iload 4, 2) := by decide +kernel
theorem dX3_write_29 : decode cX3_write 29 = .ok (.iload_n 2, 1) := by decide +kernel
theorem dX3_write_30 : decode cX3_write 30 = .ok (.iastore, 1) := by decide +kernel
theorem dX3_write_31 : decode cX3_write 31 = .ok (.aload_n 0, 1) := by decide +kernel
theorem dX3_write_32 : decode cX3_write 32 = .ok (.getfield 18, 3) := by decide +kernel
theorem dX3_write_35 : decode cX3_write 35 = .ok (.iload 4, 2) := by decide +kernel
theorem dX3_write_37 : decode cX3_write 37 = .ok (.iconst 0, 1) := by decide +kernel
theorem dX3_write_38 : decode cX3_write 38 = .ok (.iastore, 1) := by decide +kernel
theorem dX3_write_39 : decode cX3_write 39 = .ok (.aload_n 0, 1) := by decide +kernel
theorem dX3_write_40 : decode cX3_write 40 = .ok (.getfield 21, 3) := by decide +kernel
theorem dX3_write_43 : decode cX3_write 43 = .ok (.iload 4, 2) := by decide +kernel
theorem dX3_write_45 : decode cX3_write 45 = .ok (.iload_n 3, 1) := by decide +kernel
theorem dX3_write_46 : decode cX3_write 46 = .ok (.iastore, 1) := by decide +kernel
theorem dX3_write_47 : decode cX3_write 47 = .ok (.aload_n 0, 1) := by decide +kernel
theorem dX3_write_48 : decode cX3_write 48 = .ok (.dup, 1) := by decide +kernel
theorem dX3_write_49 : decode cX3_write 49 = .ok (.getfield 24, 3) := by decide +kernel
theorem dX3_write_52 : decode cX3_write 52 = .ok (.iconst 1, 1) := by decide +kernel
theorem dX3_write_53 : decode cX3_write 53 = .ok (.iadd, 1) := by decide +kernel
theorem dX3_write_54 : decode cX3_write 54 = .ok (.putfield 24, 3) := by decide +kernel
theorem dX3_write_57 : decode cX3_write 57 = .ok (.iload 4, 2) := by decide +kernel
theorem dX3_write_59 : decode cX3_write 59 = .ok (.ireturn, 1) := by decide +kernel
theorem dX3_widestOpen_0 : decode cX3_widestOpen 0 = .ok (.iconst 0, 1) := by decide +kernel
theorem dX3_widestOpen_1 : decode cX3_widestOpen 1 = .ok (.istore_n 1, 1) := by decide +kernel
theorem dX3_widestOpen_2 : decode cX3_widestOpen 2 = .ok (.iconst 0, 1) := by decide +kernel
