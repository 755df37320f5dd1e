theorem dX0_init_0 : decode cX0_init 0 = .ok (.aload_n 0, 1) := by decide +kernel
theorem dX0_init_1 : decode cX0_init 1 = .ok (.invokespecial 1, 3) := by decide +kernel
theorem dX0_init_4 : decode cX0_init 4 = .ok (.aload_n 0, 1) := by decide +kernel
theorem dX0_init_5 : decode cX0_init 5 = .ok (.sipush 2000, 3) := by decide +kernel
theorem dX0_init_8 : decode cX0_init 8 = .ok (.putfield 7, 3) := by decide +kernel
theorem dX0_init_11 : decode cX0_init 11 = .ok (.aload_n 0, 1) := by decide +kernel
theorem dX0_init_12 : decode cX0_init 12 = .ok (.iconst 3, 1) := by decide +kernel
theorem dX0_init_13 : decode cX0_init 13 = .ok (.putfield 13, 3) := by decide +kernel
theorem dX0_init_16 : decode cX0_init 16 = .ok (.aload_n 0, 1) := by decide +kernel
theorem dX0_init_17 : decode cX0_init 17 = .ok (.iconst 5, 1) := by decide +kernel
theorem dX0_init_18 : decode cX0_init 18 = .ok (.putfield 16, 3) := by decide +kernel
theorem dX0_init_21 : decode cX0_init 21 = .ok (.return_, 1) := by decide +kernel
theorem dX0_cost_0 : decode cX0_cost 0 = .ok (.iload_n 1, 1) := by decide +kernel
theorem dX0_cost_1 : decode cX0_cost 1 = .ok (.aload_n 0, 1) := by decide +kernel
theorem dX0_cost_2 : decode cX0_cost 2 = .ok (.getfield 7, 3) := by decide +kernel
theorem dX0_cost_5 : decode cX0_cost 5 = .ok (.invokestatic 19, 3) := by decide +kernel
theorem dX0_cost_8 : decode cX0_cost 8 = .ok (.istore_n 2, 1) := by decide +kernel
theorem dX0_cost_9 : decode cX0_cost 9 = .ok (.iload_n 2, 1) := by decide +kernel
theorem dX0_cost_10 : decode cX0_cost 10 = .ok (.i2l, 1) := by decide +kernel
theorem dX0_cost_11 : decode cX0_cost 11 = .ok (.aload_n 0, 1) := by decide +kernel
theorem dX0_cost_12 : decode cX0_cost 12 = .ok (.getfield 13, 3) := by decide +kernel
theorem dX0_cost_15 : decode cX0_cost 15 = .ok (.i2l, 1) := by decide +kernel
theorem dX0_cost_16 : decode cX0_cost 16 = .ok (.lmul, 1) := by decide +kernel
theorem dX0_cost_17 : decode cX0_cost 17 = .ok (.iload_n 1, 1) := by decide +kernel
theorem dX0_cost_18 : decode cX0_cost 18 = .ok (.iload_n 2, 1) := by decide +kernel
theorem dX0_cost_19 : decode cX0_cost 19 = .ok (.isub, 1) := by decide +kernel
theorem dX0_cost_20 : decode cX0_cost 20 = .ok (.i2l, 1) := by decide +kernel
theorem dX0_cost_21 : decode cX0_cost 21 = .ok (.aload_n 0, 1) := by decide +kernel
theorem dX0_cost_22 : decode cX0_cost 22 = .ok (.getfield 16, 3) := by decide +kernel
theorem dX0_cost_25 : decode cX0_cost 25 = .ok (.i2l, 1) := by decide +kernel
theorem dX0_cost_26 : decode cX0_cost 26 = .ok (.lmul, 1) := by decide +kernel
theorem dX0_cost_27 : decode cX0_cost 27 = .ok (.ladd, 1) := by decide +kernel
theorem dX0_cost_28 : decode cX0_cost 28 = .ok (.lreturn, 1) := by decide +kernel
theorem dX1_init_0 : decode cX1_init 0 = .ok (.aload_n 0, 1) := by decide +kernel
theorem dX1_init_1 : decode cX1_init 1 = .ok (.invokespecial 3, 3) := by decide +kernel
theorem dX1_init_4 : decode cX1_init 4 = .ok (.aload_n 0, 1) := by decide +kernel
theorem dX1_init_5 : decode cX1_init 5 = .ok (.bipush 10, 2) := by decide +kernel
theorem dX1_init_7 : decode cX1_init 7 = .ok (.newarray .int, 2) := by decide +kernel
theorem dX1_init_9 : decode cX1_init 9 = .ok (.putfield 9, 3) := by decide +kernel
theorem dX1_init_12 : decode cX1_init 12 = .ok (.aload_n 0, 1) := by decide +kernel
theorem dX1_init_13 : decode cX1_init 13 = .ok (.bipush 10, 2) := by decide +kernel
theorem dX1_init_15 : decode cX1_init 15 = .ok (.newarray .int, 2) := by decide +kernel
theorem dX1_init_17 : decode cX1_init 17 = .ok (.putfield 15, 3) := by decide +kernel
theorem dX1_init_20 : decode cX1_init 20 = .ok (.aload_n 0, 1) := by decide +kernel
theorem dX1_init_21 : decode cX1_init 21 = .ok (.bipush 10, 2) := by decide +kernel
theorem dX1_init_23 : decode cX1_init 23 = .ok (.newarray .int, 2) := by decide +kernel
theorem dX1_init_25 : decode cX1_init 25 = .ok (.putfield 18, 3) := by decide +kernel
theorem dX1_init_28 : decode cX1_init 28 = .ok (.aload_n 0, 1) := by decide +kernel
theorem dX1_init_29 : decode cX1_init 29 = .ok (.bipush 10, 2) := by decide +kernel
theorem dX1_init_31 : decode cX1_init 31 = .ok (.newarray .int, 2) := by decide +kernel
theorem dX1_init_33 : decode cX1_init 33 = .ok (.putfield 21, 3) := by decide +kernel
theorem dX1_init_36 : decode cX1_init 36 = .ok (.aload_n 0, 1) := by decide +kernel
theorem dX1_init_37 : decode cX1_init 37 = .ok (.bipush 10, 2) := by decide +kernel
theorem dX1_init_39 : decode cX1_init 39 = .ok (.newarray .int, 2) := by decide +kernel
theorem dX1_init_41 : decode cX1_init 41 = .ok (.putfield 24, 3) := by decide +kernel
theorem dX1_init_44 : decode cX1_init 44 = .ok (.aload_n 0, 1) := by decide +kernel
theorem dX1_init_45 : decode cX1_init 45 = .ok (.sipush 801, 3) := by decide +kernel
theorem dX1_init_48 : decode cX1_init 48 = .ok (.newarray .int, 2) := by decide +kernel
theorem dX1_init_50 : decode cX1_init 50 = .ok (.putfield 27, 3) := by decide +kernel
theorem dX1_init_53 : decode cX1_init 53 = .ok (.return_, 1) := by decide +kernel
set_option maxRecDepth 20000 in
theorem ggX1_load_X3_has : GoodIn wsX1_load wsX3_has := goodIn_r _ [19, 20, 29, 30, 31, 32, 33] (by decide +kernel) (by decide +kernel)
set_option maxRecDepth 20000 in
theorem gX1_load_X3_has : GoodIn wsX1_load (wsV RX1 43 RX3 yX3_has wsX3_has) := goodIn_app (goodIn_of _ (by decide +kernel)) ggX1_load_X3_has
theorem dX1_load_0 : decode cX1_load 0 = .ok (.aload_n 0, 1) := by decide +kernel
theorem dX1_load_1 : decode cX1_load 1 = .ok (.iconst 0, 1) := by decide +kernel
theorem dX1_load_2 : decode cX1_load 2 = .ok (.iload_n 3, 1) := by decide +kernel
theorem dX1_load_3 : decode cX1_load 3 = .ok (.sipush 800, 3) := by decide +kernel
theorem dX1_load_6 : decode cX1_load 6 = .ok (.invokestatic 30, 3) := by decide +kernel
theorem dX1_load_9 : decode cX1_load 9 = .ok (.invokestatic 36, 3) := by decide +kernel
theorem dX1_load_12 : decode cX1_load 12 = .ok (.putfield 39, 3) := by decide +kernel
theorem dX1_load_15 : decode cX1_load 15 = .ok (.iconst 0, 1) := by decide +kernel
theorem dX1_load_16 : decode cX1_load 16 = .ok (.istore 4, 2) := by decide +kernel
theorem dX1_load_18 : decode cX1_load 18 = .ok (.bipush 9, 2) := by decide +kernel
theorem dX1_load_20 : decode cX1_load 20 = .ok (.istore 5, 2) := by decide +kernel
theorem dX1_load_22 : decode cX1_load 22 = .ok (.iload 5, 2) := by decide +kernel
theorem dX1_load_24 : decode cX1_load 24 = .ok (.ifCond .lt 116, 3) := by decide +kernel
theorem dX1_load_27 : decode cX1_load 27 = .ok (.aload_n 1, 1) := by decide +kernel
theorem dX1_load_28 : decode cX1_load 28 = .ok (.iload 5, 2) := by decide +kernel
theorem dX1_load_30 : decode cX1_load 30 = .ok (.invokevirtual 43, 3) := by decide +kernel
theorem dX1_load_33 : decode cX1_load 33 = .ok (.ifCond .eq 18, 3) := by decide +kernel
theorem dX1_load_36 : decode cX1_load 36 = .ok (.aload_n 1, 1) := by decide +kernel
theorem dX1_load_37 : decode cX1_load 37 = .ok (.getfield 49, 3) := by decide +kernel
theorem dX1_load_40 : decode cX1_load 40 = .ok (.iload 5, 2) := by decide +kernel
theorem dX1_load_42 : decode cX1_load 42 = .ok (.iaload, 1) := by decide +kernel
theorem dX1_load_43 : decode cX1_load 43 = .ok (.iload_n 2, 1) := by decide +kernel
theorem dX1_load_44 : decode cX1_load 44 = .ok (.if_icmp .ne 7, 3) := by decide +kernel
theorem dX1_load_47 : decode cX1_load 47 = .ok (.iconst 1, 1) := by decide +kernel
theorem dX1_load_48 : decode cX1_load 48 = .ok (.goto 4, 3) := by decide +kernel
theorem dX1_load_51 : decode cX1_load 51 = .ok (.iconst 0, 1) := by decide +kernel
theorem dX1_load_52 : decode cX1_load 52 = .ok (.istore 6, 2) := by decide +kernel
theorem dX1_load_54 : decode cX1_load 54 = .ok (.aload_n 0, 1) := by decide +kernel
theorem dX1_load_55 : decode cX1_load 55 = .ok (.getfield 18, 3) := by decide +kernel
theorem dX1_load_58 : decode cX1_load 58 = .ok (.iload 5, 2) := by decide +kernel
theorem dX1_load_60 : decode cX1_load 60 = .ok (.aload_n 1, 1) := by decide +kernel
theorem dX1_load_61 : decode cX1_load 61 = .ok (.getfield 52, 3) := by decide +kernel
theorem dX1_load_64 : decode cX1_load 64 = .ok (.iload 5, 2) := by decide +kernel
theorem dX1_load_66 : decode cX1_load 66 = .ok (.iaload, 1) := by decide +kernel
theorem dX1_load_67 : decode cX1_load 67 = .ok (.iastore, 1) := by decide +kernel
theorem dX1_load_68 : decode cX1_load 68 = .ok (.aload_n 0, 1) := by decide +kernel
theorem dX1_load_69 : decode cX1_load 69 = .ok (.getfield 21, 3) := by decide +kernel
theorem dX1_load_72 : decode cX1_load 72 = .ok (.iload 5, 2) := by decide +kernel
theorem dX1_load_74 : decode cX1_load 74 = .ok (.iload 6, 2) := by decide +kernel
theorem dX1_load_76 : decode cX1_load 76 = .ok (.ifCond .eq 18, 3) := by decide +kernel
theorem dX1_load_79 : decode cX1_load 79 = .ok (.aload_n 1, 1) := by decide +kernel
theorem dX1_load_80 : decode cX1_load 80 = .ok (.getfield 53, 3) := by decide +kernel
theorem dX1_load_83 : decode cX1_load 83 = .ok (.iload 5, 2) := by decide +kernel
theorem dX1_load_85 : decode cX1_load 85 = .ok (.iaload, 1) := by decide +kernel
theorem dX1_load_86 : decode cX1_load 86 = .ok (.bipush 6, 2) := by decide +kernel
theorem dX1_load_88 : decode cX1_load 88 = .ok (.invokestatic 30, 3) := by decide +kernel
theorem dX1_load_91 : decode cX1_load 91 = .ok (.goto 4, 3) := by decide +kernel
theorem dX1_load_94 : decode cX1_load 94 = .ok (.iconst 0, 1) := by decide +kernel
theorem dX1_load_95 : decode cX1_load 95 = .ok (.iastore, 1) := by decide +kernel
theorem dX1_load_96 : decode cX1_load 96 = .ok (.aload_n 0, 1) := by decide +kernel
theorem dX1_load_97 : decode cX1_load 97 = .ok (.getfield 21, 3) := by decide +kernel
theorem dX1_load_100 : decode cX1_load 100 = .ok (.iload 5, 2) := by decide +kernel
theorem dX1_load_102 : decode cX1_load 102 = .ok (.iaload, 1) := by decide +kernel
theorem dX1_load_103 : decode cX1_load 103 = .ok (.ifCond .le 18, 3) := by decide +kernel
theorem dX1_load_106 : decode cX1_load 106 = .ok (.iload 4, 2) := by decide +kernel
theorem dX1_load_108 : decode cX1_load 108 = .ok (.aload_n 0, 1) := by decide +kernel
theorem dX1_load_109 : decode cX1_load 109 = .ok (.getfield 18, 3) := by decide +kernel
theorem dX1_load_112 : decode cX1_load 112 = .ok (.iload 5, 2) := by decide +kernel
theorem dX1_load_114 : decode cX1_load 114 = .ok (.iaload, 1) := by decide +kernel
theorem dX1_load_115 : decode cX1_load 115 = .ok (.invokestatic 36, 3) := by decide +kernel
theorem dX1_load_118 : decode cX1_load 118 = .ok (.goto 5, 3) := by decide +kernel
theorem dX1_load_121 : decode cX1_load 121 = .ok (.iload 4, 2) := by decide +kernel
theorem dX1_load_123 : decode cX1_load 123 = .ok (.istore 4, 2) := by decide +kernel
theorem dX1_load_125 : decode cX1_load 125 = .ok (.aload_n 0, 1) := by decide +kernel
theorem dX1_load_126 : decode cX1_load 126 = .ok (.getfield 24, 3) := by decide +kernel
theorem dX1_load_129 : decode cX1_load 129 = .ok (.iload 5, 2) := by decide +kernel
theorem dX1_load_131 : decode cX1_load 131 = .ok (.iload 4, 2) := by decide +kernel
theorem dX1_load_133 : decode cX1_load 133 = .ok (.iastore, 1) := by decide +kernel
theorem dX1_load_134 : decode cX1_load 134 = .ok (.iinc 5 (-1), 3) := by decide +kernel
theorem dX1_load_137 : decode cX1_load 137 = .ok (.goto (-115), 3) := by decide +kernel
theorem dX1_load_140 : decode cX1_load 140 = .ok (.return_, 1) := by decide +kernel
set_option maxRecDepth 20000 in
theorem ggX1_sumBySearch_J7_fill_53178 : GoodIn wsX1_sumBySearch wsJ7_fill_53178 := goodIn_r _ [6] (by decide +kernel) (by decide +kernel)
set_option maxRecDepth 20000 in
theorem gX1_sumBySearch_J7_fill_53178 : GoodIn wsX1_sumBySearch (va_wsS RX1 59 yJ7_fill_53178 wsJ7_fill_53178) := goodIn_app (goodIn_of _ (by decide +kernel)) ggX1_sumBySearch_J7_fill_53178
set_option maxRecDepth 20000 in
theorem ggX1_sumBySearch_X1_search : GoodIn wsX1_sumBySearch wsX1_search := goodIn_ca (goodIn_r _ [10, 11, 12, 13, 14, 15, 16, 1, 17, 18, 19, 20, 21, 22, 9, 23, 2, 24, 25, 26, 27, 7, 8, 28, 29, 30, 31, 32, 33, 34, 35] (by decide +kernel) (by decide +kernel)) (goodIn_sub (fun _ h => List.mem_cons_of_mem _ (List.mem_append_right _ h)) (by decide +kernel))
set_option maxRecDepth 20000 in
theorem gX1_sumBySearch_X1_search : GoodIn wsX1_sumBySearch (va_wsS RX1 65 yX1_search wsX1_search) := goodIn_app (goodIn_of _ (by decide +kernel)) ggX1_sumBySearch_X1_search
theorem dX1_sumBySearch_0 : decode cX1_sumBySearch 0 = .ok (.aload_n 0, 1) := by decide +kernel
theorem dX1_sumBySearch_1 : decode cX1_sumBySearch 1 = .ok (.iconst 0, 1) := by decide +kernel
theorem dX1_sumBySearch_2 : decode cX1_sumBySearch 2 = .ok (.putfield 56, 3) := by decide +kernel
theorem dX1_sumBySearch_5 : decode cX1_sumBySearch 5 = .ok (.aload_n 0, 1) := by decide +kernel
theorem dX1_sumBySearch_6 : decode cX1_sumBySearch 6 = .ok (.getfield 9, 3) := by decide +kernel
theorem dX1_sumBySearch_9 : decode cX1_sumBySearch 9 = .ok (.iconst 0, 1) := by decide +kernel
theorem dX1_sumBySearch_10 : decode cX1_sumBySearch 10 = .ok (.invokestatic 59, 3) := by decide +kernel
theorem dX1_sumBySearch_13 : decode cX1_sumBySearch 13 = .ok (.aload_n 0, 1) := by decide +kernel
theorem dX1_sumBySearch_14 : decode cX1_sumBySearch 14 = .ok (.iconst 0, 1) := by decide +kernel
theorem dX1_sumBySearch_15 : decode cX1_sumBySearch 15 = .ok (.bipush 6, 2) := by decide +kernel
theorem dX1_sumBySearch_17 : decode cX1_sumBySearch 17 = .ok (.iconst 0, 1) := by decide +kernel
theorem dX1_sumBySearch_18 : decode cX1_sumBySearch 18 = .ok (.invokestatic 65, 3) := by decide +kernel
theorem dX1_sumBySearch_21 : decode cX1_sumBySearch 21 = .ok (.aload_n 0, 1) := by decide +kernel
theorem dX1_sumBySearch_22 : decode cX1_sumBySearch 22 = .ok (.getfield 56, 3) := by decide +kernel
theorem dX1_sumBySearch_25 : decode cX1_sumBySearch 25 = .ok (.ireturn, 1) := by decide +kernel
set_option maxRecDepth 20000 in
theorem ggX1_search_X1_keepIfGreater : GoodIn wsX1_search wsX1_keepIfGreater := goodIn_r _ [15, 7, 10, 16, 17, 18, 19, 20, 23, 24, 25, 26, 27, 28, 29, 30] (by decide +kernel) (by decide +kernel)
set_option maxRecDepth 20000 in
theorem gX1_search_X1_keepIfGreater : GoodIn wsX1_search (wsV RX1 69 RX1 yX1_keepIfGreater wsX1_keepIfGreater) := goodIn_app (goodIn_of _ (by decide +kernel)) ggX1_search_X1_keepIfGreater
set_option maxRecDepth 20000 in
theorem ggX1_search_X1_search : GoodIn wsX1_search wsX1_search := goodIn_ca (goodIn_r _ [0, 1, 2, 3, 4, 5, 6, 7, 8, 9, 10, 11, 12, 13, 14, 15, 16, 17, 18, 19, 20, 21, 22, 23, 24, 25, 26, 27, 28, 29, 30] (by decide +kernel) (by decide +kernel)) (goodIn_sub (fun _ h => List.mem_cons_of_mem _ (List.mem_append_right _ h)) (by decide +kernel))
set_option maxRecDepth 20000 in
theorem gX1_search_X1_search : GoodIn wsX1_search (va_wsS RX1 65 yX1_search wsX1_search) := goodIn_app (goodIn_of _ (by decide +kernel)) ggX1_search_X1_search
theorem dX1_search_0 : decode cX1_search 0 = .ok (.iload_n 1, 1) := by decide +kernel
theorem dX1_search_1 : decode cX1_search 1 = .ok (.ifCond .lt 9, 3) := by decide +kernel
theorem dX1_search_4 : decode cX1_search 4 = .ok (.iload_n 1, 1) := by decide +kernel
theorem dX1_search_5 : decode cX1_search 5 = .ok (.bipush 10, 2) := by decide +kernel
theorem dX1_search_7 : decode cX1_search 7 = .ok (.if_icmp .lt 9, 3) := by decide +kernel
theorem dX1_search_10 : decode cX1_search 10 = .ok (.aload_n 0, 1) := by decide +kernel
theorem dX1_search_11 : decode cX1_search 11 = .ok (.iload_n 3, 1) := by decide +kernel
theorem dX1_search_12 : decode cX1_search 12 = .ok (.invokevirtual 69, 3) := by decide +kernel
theorem dX1_search_15 : decode cX1_search 15 = .ok (.return_, 1) := by decide +kernel
theorem dX1_search_16 : decode cX1_search 16 = .ok (.iload_n 2, 1) := by decide +kernel
theorem dX1_search_17 : decode cX1_search 17 = .ok (.aload_n 0, 1) := by decide +kernel
theorem dX1_search_18 : decode cX1_search 18 = .ok (.getfield 24, 3) := by decide +kernel
theorem dX1_search_21 : decode cX1_search 21 = .ok (.iload_n 1, 1) := by decide +kernel
theorem dX1_search_22 : decode cX1_search 22 = .ok (.iaload, 1) := by decide +kernel
theorem dX1_search_23 : decode cX1_search 23 = .ok (.imul, 1) := by decide +kernel
theorem dX1_search_24 : decode cX1_search 24 = .ok (.aload_n 0, 1) := by decide +kernel
theorem dX1_search_25 : decode cX1_search 25 = .ok (.getfield 39, 3) := by decide +kernel
theorem dX1_search_28 : decode cX1_search 28 = .ok (.iload_n 3, 1) := by decide +kernel
theorem dX1_search_29 : decode cX1_search 29 = .ok (.isub, 1) := by decide +kernel
theorem dX1_search_30 : decode cX1_search 30 = .ok (.invokestatic 30, 3) := by decide +kernel
theorem dX1_search_33 : decode cX1_search 33 = .ok (.istore 4, 2) := by decide +kernel
theorem dX1_search_35 : decode cX1_search 35 = .ok (.iload_n 3, 1) := by decide +kernel
theorem dX1_search_36 : decode cX1_search 36 = .ok (.iload 4, 2) := by decide +kernel
theorem dX1_search_38 : decode cX1_search 38 = .ok (.iadd, 1) := by decide +kernel
theorem dX1_search_39 : decode cX1_search 39 = .ok (.aload_n 0, 1) := by decide +kernel
theorem dX1_search_40 : decode cX1_search 40 = .ok (.getfield 56, 3) := by decide +kernel
theorem dX1_search_43 : decode cX1_search 43 = .ok (.if_icmp .gt 4, 3) := by decide +kernel
theorem dX1_search_46 : decode cX1_search 46 = .ok (.return_, 1) := by decide +kernel
theorem dX1_search_47 : decode cX1_search 47 = .ok (.aload_n 0, 1) := by decide +kernel
theorem dX1_search_48 : decode cX1_search 48 = .ok (.getfield 21, 3) := by decide +kernel
theorem dX1_search_51 : decode cX1_search 51 = .ok (.iload_n 1, 1) := by decide +kernel
theorem dX1_search_52 : decode cX1_search 52 = .ok (.iaload, 1) := by decide +kernel
theorem dX1_search_53 : decode cX1_search 53 = .ok (.iload_n 2, 1) := by decide +kernel
theorem dX1_search_54 : decode cX1_search 54 = .ok (.invokestatic 30, 3) := by decide +kernel
theorem dX1_search_57 : decode cX1_search 57 = .ok (.istore 5, 2) := by decide +kernel
theorem dX1_search_59 : decode cX1_search 59 = .ok (.iload 5, 2) := by decide +kernel
theorem dX1_search_61 : decode cX1_search 61 = .ok (.ifCond .lt 52, 3) := by decide +kernel
theorem dX1_search_64 : decode cX1_search 64 = .ok (.iload_n 3, 1) := by decide +kernel
theorem dX1_search_65 : decode cX1_search 65 = .ok (.iload 5, 2) := by decide +kernel
theorem dX1_search_67 : decode cX1_search 67 = .ok (.aload_n 0, 1) := by decide +kernel
theorem dX1_search_68 : decode cX1_search 68 = .ok (.getfield 18, 3) := by decide +kernel
theorem dX1_search_71 : decode cX1_search 71 = .ok (.iload_n 1, 1) := by decide +kernel
theorem dX1_search_72 : decode cX1_search 72 = .ok (.iaload, 1) := by decide +kernel
theorem dX1_search_73 : decode cX1_search 73 = .ok (.imul, 1) := by decide +kernel
theorem dX1_search_74 : decode cX1_search 74 = .ok (.iadd, 1) := by decide +kernel
theorem dX1_search_75 : decode cX1_search 75 = .ok (.istore 6, 2) := by decide +kernel
theorem dX1_search_77 : decode cX1_search 77 = .ok (.iload 6, 2) := by decide +kernel
theorem dX1_search_79 : decode cX1_search 79 = .ok (.aload_n 0, 1) := by decide +kernel
theorem dX1_search_80 : decode cX1_search 80 = .ok (.getfield 39, 3) := by decide +kernel
theorem dX1_search_83 : decode cX1_search 83 = .ok (.if_icmp .gt 24, 3) := by decide +kernel
theorem dX1_search_86 : decode cX1_search 86 = .ok (.aload_n 0, 1) := by decide +kernel
theorem dX1_search_87 : decode cX1_search 87 = .ok (.getfield 15, 3) := by decide +kernel
theorem dX1_search_90 : decode cX1_search 90 = .ok (.iload_n 1, 1) := by decide +kernel
theorem dX1_search_91 : decode cX1_search 91 = .ok (.iload 5, 2) := by decide +kernel
theorem dX1_search_93 : decode cX1_search 93 = .ok (.iastore, 1) := by decide +kernel
theorem dX1_search_94 : decode cX1_search 94 = .ok (.aload_n 0, 1) := by decide +kernel
theorem dX1_search_95 : decode cX1_search 95 = .ok (.iload_n 1, 1) := by decide +kernel
theorem dX1_search_96 : decode cX1_search 96 = .ok (.iconst 1, 1) := by decide +kernel
theorem dX1_search_97 : decode cX1_search 97 = .ok (.iadd, 1) := by decide +kernel
theorem dX1_search_98 : decode cX1_search 98 = .ok (.iload_n 2, 1) := by decide +kernel
theorem dX1_search_99 : decode cX1_search 99 = .ok (.iload 5, 2) := by decide +kernel
theorem dX1_search_101 : decode cX1_search 101 = .ok (.isub, 1) := by decide +kernel
theorem dX1_search_102 : decode cX1_search 102 = .ok (.iload 6, 2) := by decide +kernel
theorem dX1_search_104 : decode cX1_search 104 = .ok (.invokestatic 65, 3) := by decide +kernel
theorem dX1_search_107 : decode cX1_search 107 = .ok (.iinc 5 (-1), 3) := by decide +kernel
theorem dX1_search_110 : decode cX1_search 110 = .ok (.goto (-51), 3) := by decide +kernel
theorem dX1_search_113 : decode cX1_search 113 = .ok (.return_, 1) := by decide +kernel
theorem dX1_keepIfGreater_0 : decode cX1_keepIfGreater 0 = .ok (.iload_n 1, 1) := by decide +kernel
theorem dX1_keepIfGreater_1 : decode cX1_keepIfGreater 1 = .ok (.aload_n 0, 1) := by decide +kernel
theorem dX1_keepIfGreater_2 : decode cX1_keepIfGreater 2 = .ok (.getfield 56, 3) := by decide +kernel
theorem dX1_keepIfGreater_5 : decode cX1_keepIfGreater 5 = .ok (.if_icmp .le 23, 3) := by decide +kernel
theorem dX1_keepIfGreater_8 : decode cX1_keepIfGreater 8 = .ok (.aload_n 0, 1) := by decide +kernel
theorem dX1_keepIfGreater_9 : decode cX1_keepIfGreater 9 = .ok (.iload_n 1, 1) := by decide +kernel
theorem dX1_keepIfGreater_10 : decode cX1_keepIfGreater 10 = .ok (.putfield 56, 3) := by decide +kernel
theorem dX1_keepIfGreater_13 : decode cX1_keepIfGreater 13 = .ok (.aload_n 0, 1) := by decide +kernel
theorem dX1_keepIfGreater_14 : decode cX1_keepIfGreater 14 = .ok (.getfield 15, 3) := by decide +kernel
theorem dX1_keepIfGreater_17 : decode cX1_keepIfGreater 17 = .ok (.iconst 0, 1) := by decide +kernel
theorem dX1_keepIfGreater_18 : decode cX1_keepIfGreater 18 = .ok (.aload_n 0, 1) := by decide +kernel
theorem dX1_keepIfGreater_19 : decode cX1_keepIfGreater 19 = .ok (.getfield 9, 3) := by decide +kernel
theorem dX1_keepIfGreater_22 : decode cX1_keepIfGreater 22 = .ok (.iconst 0, 1) := by decide +kernel
theorem dX1_keepIfGreater_23 : decode cX1_keepIfGreater 23 = .ok (.bipush 10, 2) := by decide +kernel
theorem dX1_keepIfGreater_25 : decode cX1_keepIfGreater 25 = .ok (.invokestatic 73, 3) := by decide +kernel
theorem dX1_keepIfGreater_28 : decode cX1_keepIfGreater 28 = .ok (.return_, 1) := by decide +kernel
set_option maxRecDepth 20000 in
theorem ggX1_sumByTable_J7_fill_53178 : GoodIn wsX1_sumByTable wsJ7_fill_53178 := goodIn_r _ [8] (by decide +kernel) (by decide +kernel)
set_option maxRecDepth 20000 in
theorem gX1_sumByTable_J7_fill_53178 : GoodIn wsX1_sumByTable (va_wsS RX1 59 yJ7_fill_53178 wsJ7_fill_53178) := goodIn_app (goodIn_of _ (by decide +kernel)) ggX1_sumByTable_J7_fill_53178
set_option maxRecDepth 20000 in
theorem ggX1_sumByTable_X1_addRollToTable : GoodIn wsX1_sumByTable wsX1_addRollToTable := goodIn_ca (goodIn_r _ [13, 4, 1, 14, 15, 16, 17, 18, 19, 20, 21, 22, 23, 24, 25] (by decide +kernel) (by decide +kernel)) (goodIn_sub (fun _ h => List.mem_cons_of_mem _ (List.mem_append_right _ h)) (by decide +kernel))
set_option maxRecDepth 20000 in
theorem gX1_sumByTable_X1_addRollToTable : GoodIn wsX1_sumByTable (wsV RX1 79 RX1 yX1_addRollToTable wsX1_addRollToTable) := goodIn_app (goodIn_of _ (by decide +kernel)) ggX1_sumByTable_X1_addRollToTable
theorem dX1_sumByTable_0 : decode cX1_sumByTable 0 = .ok (.aload_n 0, 1) := by decide +kernel
theorem dX1_sumByTable_1 : decode cX1_sumByTable 1 = .ok (.getfield 27, 3) := by decide +kernel
theorem dX1_sumByTable_4 : decode cX1_sumByTable 4 = .ok (.bipush 7, 2) := by decide +kernel
theorem dX1_sumByTable_6 : decode cX1_sumByTable 6 = .ok (.invokestatic 59, 3) := by decide +kernel
theorem dX1_sumByTable_9 : decode cX1_sumByTable 9 = .ok (.aload_n 0, 1) := by decide +kernel
theorem dX1_sumByTable_10 : decode cX1_sumByTable 10 = .ok (.getfield 27, 3) := by decide +kernel
theorem dX1_sumByTable_13 : decode cX1_sumByTable 13 = .ok (.iconst 0, 1) := by decide +kernel
theorem dX1_sumByTable_14 : decode cX1_sumByTable 14 = .ok (.iconst 0, 1) := by decide +kernel
theorem dX1_sumByTable_15 : decode cX1_sumByTable 15 = .ok (.iastore, 1) := by decide +kernel
theorem dX1_sumByTable_16 : decode cX1_sumByTable 16 = .ok (.iconst 0, 1) := by decide +kernel
theorem dX1_sumByTable_17 : decode cX1_sumByTable 17 = .ok (.istore_n 1, 1) := by decide +kernel
theorem dX1_sumByTable_18 : decode cX1_sumByTable 18 = .ok (.iload_n 1, 1) := by decide +kernel
theorem dX1_sumByTable_19 : decode cX1_sumByTable 19 = .ok (.bipush 10, 2) := by decide +kernel
theorem dX1_sumByTable_21 : decode cX1_sumByTable 21 = .ok (.if_icmp .ge 37, 3) := by decide +kernel
theorem dX1_sumByTable_24 : decode cX1_sumByTable 24 = .ok (.iconst 0, 1) := by decide +kernel
theorem dX1_sumByTable_25 : decode cX1_sumByTable 25 = .ok (.istore_n 2, 1) := by decide +kernel
theorem dX1_sumByTable_26 : decode cX1_sumByTable 26 = .ok (.iload_n 2, 1) := by decide +kernel
theorem dX1_sumByTable_27 : decode cX1_sumByTable 27 = .ok (.aload_n 0, 1) := by decide +kernel
theorem dX1_sumByTable_28 : decode cX1_sumByTable 28 = .ok (.getfield 21, 3) := by decide +kernel
theorem dX1_sumByTable_31 : decode cX1_sumByTable 31 = .ok (.iload_n 1, 1) := by decide +kernel
theorem dX1_sumByTable_32 : decode cX1_sumByTable 32 = .ok (.iaload, 1) := by decide +kernel
theorem dX1_sumByTable_33 : decode cX1_sumByTable 33 = .ok (.if_icmp .ge 19, 3) := by decide +kernel
theorem dX1_sumByTable_36 : decode cX1_sumByTable 36 = .ok (.aload_n 0, 1) := by decide +kernel
theorem dX1_sumByTable_37 : decode cX1_sumByTable 37 = .ok (.aload_n 0, 1) := by decide +kernel
theorem dX1_sumByTable_38 : decode cX1_sumByTable 38 = .ok (.getfield 18, 3) := by decide +kernel
theorem dX1_sumByTable_41 : decode cX1_sumByTable 41 = .ok (.iload_n 1, 1) := by decide +kernel
theorem dX1_sumByTable_42 : decode cX1_sumByTable 42 = .ok (.iaload, 1) := by decide +kernel
theorem dX1_sumByTable_43 : decode cX1_sumByTable 43 = .ok (.invokevirtual 79, 3) := by decide +kernel
theorem dX1_sumByTable_46 : decode cX1_sumByTable 46 = .ok (.iinc 2 1, 3) := by decide +kernel
theorem dX1_sumByTable_49 : decode cX1_sumByTable 49 = .ok (.goto (-23), 3) := by decide +kernel
theorem dX1_sumByTable_52 : decode cX1_sumByTable 52 = .ok (.iinc 1 1, 3) := by decide +kernel
theorem dX1_sumByTable_55 : decode cX1_sumByTable 55 = .ok (.goto (-37), 3) := by decide +kernel
theorem dX1_sumByTable_58 : decode cX1_sumByTable 58 = .ok (.aload_n 0, 1) := by decide +kernel
theorem dX1_sumByTable_59 : decode cX1_sumByTable 59 = .ok (.getfield 39, 3) := by decide +kernel
theorem dX1_sumByTable_62 : decode cX1_sumByTable 62 = .ok (.istore_n 1, 1) := by decide +kernel
theorem dX1_sumByTable_63 : decode cX1_sumByTable 63 = .ok (.iload_n 1, 1) := by decide +kernel
theorem dX1_sumByTable_64 : decode cX1_sumByTable 64 = .ok (.ifCond .le 22, 3) := by decide +kernel
theorem dX1_sumByTable_67 : decode cX1_sumByTable 67 = .ok (.aload_n 0, 1) := by decide +kernel
theorem dX1_sumByTable_68 : decode cX1_sumByTable 68 = .ok (.getfield 27, 3) := by decide +kernel
theorem dX1_sumByTable_71 : decode cX1_sumByTable 71 = .ok (.iload_n 1, 1) := by decide +kernel
theorem dX1_sumByTable_72 : decode cX1_sumByTable 72 = .ok (.iaload, 1) := by decide +kernel
theorem dX1_sumByTable_73 : decode cX1_sumByTable 73 = .ok (.bipush 6, 2) := by decide +kernel
theorem dX1_sumByTable_75 : decode cX1_sumByTable 75 = .ok (.if_icmp .gt 5, 3) := by decide +kernel
theorem dX1_sumByTable_78 : decode cX1_sumByTable 78 = .ok (.iload_n 1, 1) := by decide +kernel
theorem dX1_sumByTable_79 : decode cX1_sumByTable 79 = .ok (.ireturn, 1) := by decide +kernel
theorem dX1_sumByTable_80 : decode cX1_sumByTable 80 = .ok (.iinc 1 (-1), 3) := by decide +kernel
theorem dX1_sumByTable_83 : decode cX1_sumByTable 83 = .ok (.goto (-20), 3) := by decide +kernel
theorem dX1_sumByTable_86 : decode cX1_sumByTable 86 = .ok (.iconst 0, 1) := by decide +kernel
theorem dX1_sumByTable_87 : decode cX1_sumByTable 87 = .ok (.ireturn, 1) := by decide +kernel
theorem dX1_addRollToTable_0 : decode cX1_addRollToTable 0 = .ok (.aload_n 0, 1) := by decide +kernel
theorem dX1_addRollToTable_1 : decode cX1_addRollToTable 1 = .ok (.getfield 39, 3) := by decide +kernel
theorem dX1_addRollToTable_4 : decode cX1_addRollToTable 4 = .ok (.istore_n 2, 1) := by decide +kernel
theorem dX1_addRollToTable_5 : decode cX1_addRollToTable 5 = .ok (.iload_n 2, 1) := by decide +kernel
theorem dX1_addRollToTable_6 : decode cX1_addRollToTable 6 = .ok (.iload_n 1, 1) := by decide +kernel
theorem dX1_addRollToTable_7 : decode cX1_addRollToTable 7 = .ok (.if_icmp .lt 38, 3) := by decide +kernel
theorem dX1_addRollToTable_10 : decode cX1_addRollToTable 10 = .ok (.iload_n 2, 1) := by decide +kernel
theorem dX1_addRollToTable_11 : decode cX1_addRollToTable 11 = .ok (.ifCond .le 34, 3) := by decide +kernel
theorem dX1_addRollToTable_14 : decode cX1_addRollToTable 14 = .ok (.aload_n 0, 1) := by decide +kernel
theorem dX1_addRollToTable_15 : decode cX1_addRollToTable 15 = .ok (.getfield 27, 3) := by decide +kernel
theorem dX1_addRollToTable_18 : decode cX1_addRollToTable 18 = .ok (.iload_n 2, 1) := by decide +kernel
theorem dX1_addRollToTable_19 : decode cX1_addRollToTable 19 = .ok (.aload_n 0, 1) := by decide +kernel
theorem dX1_addRollToTable_20 : decode cX1_addRollToTable 20 = .ok (.getfield 27, 3) := by decide +kernel
theorem dX1_addRollToTable_23 : decode cX1_addRollToTable 23 = .ok (.iload_n 2, 1) := by decide +kernel
theorem dX1_addRollToTable_24 : decode cX1_addRollToTable 24 = .ok (.iaload, 1) := by decide +kernel
theorem dX1_addRollToTable_25 : decode cX1_addRollToTable 25 = .ok (.aload_n 0, 1) := by decide +kernel
theorem dX1_addRollToTable_26 : decode cX1_addRollToTable 26 = .ok (.getfield 27, 3) := by decide +kernel
theorem dX1_addRollToTable_29 : decode cX1_addRollToTable 29 = .ok (.iload_n 2, 1) := by decide +kernel
theorem dX1_addRollToTable_30 : decode cX1_addRollToTable 30 = .ok (.iload_n 1, 1) := by decide +kernel
theorem dX1_addRollToTable_31 : decode cX1_addRollToTable 31 = .ok (.isub, 1) := by decide +kernel
theorem dX1_addRollToTable_32 : decode cX1_addRollToTable 32 = .ok (.iaload, 1) := by decide +kernel
theorem dX1_addRollToTable_33 : decode cX1_addRollToTable 33 = .ok (.iconst 1, 1) := by decide +kernel
theorem dX1_addRollToTable_34 : decode cX1_addRollToTable 34 = .ok (.iadd, 1) := by decide +kernel
theorem dX1_addRollToTable_35 : decode cX1_addRollToTable 35 = .ok (.invokestatic 30, 3) := by decide +kernel
theorem dX1_addRollToTable_38 : decode cX1_addRollToTable 38 = .ok (.iastore, 1) := by decide +kernel
theorem dX1_addRollToTable_39 : decode cX1_addRollToTable 39 = .ok (.iinc 2 (-1), 3) := by decide +kernel
theorem dX1_addRollToTable_42 : decode cX1_addRollToTable 42 = .ok (.goto (-37), 3) := by decide +kernel
theorem dX1_addRollToTable_45 : decode cX1_addRollToTable 45 = .ok (.return_, 1) := by decide +kernel
theorem dX2_init_0 : decode cX2_init 0 = .ok (.aload_n 0, 1) := by decide +kernel
theorem dX2_init_1 : decode cX2_init 1 = .ok (.invokespecial 3, 3) := by decide +kernel
theorem dX2_init_4 : decode cX2_init 4 = .ok (.aload_n 0, 1) := by decide +kernel
theorem dX2_init_5 : decode cX2_init 5 = .ok (.sipush 400, 3) := by decide +kernel
theorem dX2_init_8 : decode cX2_init 8 = .ok (.newarray .char, 2) := by decide +kernel
theorem dX2_init_10 : decode cX2_init 10 = .ok (.putfield 9, 3) := by decide +kernel
theorem dX2_init_13 : decode cX2_init 13 = .ok (.aload_n 0, 1) := by decide +kernel
theorem dX2_init_14 : decode cX2_init 14 = .ok (.sipush 400, 3) := by decide +kernel
theorem dX2_init_17 : decode cX2_init 17 = .ok (.newarray .int, 2) := by decide +kernel
theorem dX2_init_19 : decode cX2_init 19 = .ok (.putfield 15, 3) := by decide +kernel
theorem dX2_init_22 : decode cX2_init 22 = .ok (.aload_n 0, 1) := by decide +kernel
theorem dX2_init_23 : decode cX2_init 23 = .ok (.sipush 400, 3) := by decide +kernel
theorem dX2_init_26 : decode cX2_init 26 = .ok (.newarray .int, 2) := by decide +kernel
theorem dX2_init_28 : decode cX2_init 28 = .ok (.putfield 19, 3) := by decide +kernel
theorem dX2_init_31 : decode cX2_init 31 = .ok (.aload_n 0, 1) := by decide +kernel
theorem dX2_init_32 : decode cX2_init 32 = .ok (.sipush 400, 3) := by decide +kernel
theorem dX2_init_35 : decode cX2_init 35 = .ok (.newarray .int, 2) := by decide +kernel
theorem dX2_init_37 : decode cX2_init 37 = .ok (.putfield 22, 3) := by decide +kernel
theorem dX2_init_40 : decode cX2_init 40 = .ok (.return_, 1) := by decide +kernel
theorem dX2_has_0 : decode cX2_has 0 = .ok (.iload_n 1, 1) := by decide +kernel
theorem dX2_has_1 : decode cX2_has 1 = .ok (.ifCond .lt 15, 3) := by decide +kernel
theorem dX2_has_4 : decode cX2_has 4 = .ok (.iload_n 1, 1) := by decide +kernel
theorem dX2_has_5 : decode cX2_has 5 = .ok (.aload_n 0, 1) := by decide +kernel
theorem dX2_has_6 : decode cX2_has 6 = .ok (.getfield 25, 3) := by decide +kernel
theorem dX2_has_9 : decode cX2_has 9 = .ok (.if_icmp .ge 7, 3) := by decide +kernel
theorem dX2_has_12 : decode cX2_has 12 = .ok (.iconst 1, 1) := by decide +kernel
theorem dX2_has_13 : decode cX2_has 13 = .ok (.goto 4, 3) := by decide +kernel
theorem dX2_has_16 : decode cX2_has 16 = .ok (.iconst 0, 1) := by decide +kernel
theorem dX2_has_17 : decode cX2_has 17 = .ok (.ireturn, 1) := by decide +kernel
set_option maxRecDepth 20000 in
theorem ggX2_writeNothing_X2_writeMade : GoodIn wsX2_writeNothing wsX2_writeMade := goodIn_ca (goodIn_r _ [5, 6, 7, 8, 9, 10, 11, 12, 13, 14, 15, 16, 17, 18, 19, 20, 21, 22, 23, 24] (by decide +kernel) (by decide +kernel)) (goodIn_sub (fun _ h => List.mem_cons_of_mem _ (List.mem_append_right _ h)) (by decide +kernel))
set_option maxRecDepth 20000 in
theorem gX2_writeNothing_X2_writeMade : GoodIn wsX2_writeNothing (wsV RX2 29 RX2 yX2_writeMade wsX2_writeMade) := goodIn_app (goodIn_of _ (by decide +kernel)) ggX2_writeNothing_X2_writeMade
theorem dX2_writeNothing_0 : decode cX2_writeNothing 0 = .ok (.aload_n 0, 1) := by decide +kernel
theorem dX2_writeNothing_1 : decode cX2_writeNothing 1 = .ok (.bipush 110, 2) := by decide +kernel
theorem dX2_writeNothing_3 : decode cX2_writeNothing 3 = .ok (.iconst 0, 1) := by decide +kernel
theorem dX2_writeNothing_4 : decode cX2_writeNothing 4 = .ok (.iconst 0, 1) := by decide +kernel
theorem dX2_writeNothing_5 : decode cX2_writeNothing 5 = .ok (.iconst 0, 1) := by decide +kernel
theorem dX2_writeNothing_6 : decode cX2_writeNothing 6 = .ok (.invokevirtual 29, 3) := by decide +kernel
theorem dX2_writeNothing_9 : decode cX2_writeNothing 9 = .ok (.return_, 1) := by decide +kernel
theorem dX2_writeMade_0 : decode cX2_writeMade 0 = .ok (.aload_n 0, 1) := by decide +kernel
theorem dX2_writeMade_1 : decode cX2_writeMade 1 = .ok (.getfield 25, 3) := by decide +kernel
theorem dX2_writeMade_4 : decode cX2_writeMade 4 = .ok (.ifCond .lt 13, 3) := by decide +kernel
theorem dX2_writeMade_7 : decode cX2_writeMade 7 = .ok (.aload_n 0, 1) := by decide +kernel
theorem dX2_writeMade_8 : decode cX2_writeMade 8 = .ok (.getfield 25, 3) := by decide +kernel
theorem dX2_writeMade_11 : decode cX2_writeMade 11 = .ok (.sipush 400, 3) := by decide +kernel
theorem dX2_writeMade_14 : decode cX2_writeMade 14 = .ok (.if_icmp .lt 4, 3) := by decide +kernel
theorem dX2_writeMade_17 : decode cX2_writeMade 17 = .ok (.return_, 1) := by decide +kernel
theorem dX2_writeMade_18 : decode cX2_writeMade 18 = .ok (.aload_n 0, 1) := by decide +kernel
theorem dX2_writeMade_19 : decode cX2_writeMade 19 = .ok (.getfield 9, 3) := by decide +kernel
theorem dX2_writeMade_22 : decode cX2_writeMade 22 = .ok (.aload_n 0, 1) := by decide +kernel
theorem dX2_writeMade_23 : decode cX2_writeMade 23 = .ok (.getfield 25, 3) := by decide +kernel
theorem dX2_writeMade_26 : decode cX2_writeMade 26 = .ok (.iload_n 1, 1) := by decide +kernel
theorem dX2_writeMade_27 : decode cX2_writeMade 27 = .ok (.castore, 1) := by decide +kernel
theorem dX2_writeMade_28 : decode cX2_writeMade 28 = .ok (.aload_n 0, 1) := by decide +kernel
theorem dX2_writeMade_29 : decode cX2_writeMade 29 = .ok (.getfield 15, 3) := by decide +kernel
theorem dX2_writeMade_32 : decode cX2_writeMade 32 = .ok (.aload_n 0, 1) := by decide +kernel
theorem dX2_writeMade_33 : decode cX2_writeMade 33 = .ok (.getfield 25, 3) := by decide +kernel
theorem dX2_writeMade_36 : decode cX2_writeMade 36 = .ok (.iload_n 2, 1) := by decide +kernel
theorem dX2_writeMade_37 : decode cX2_writeMade 37 = .ok (.iastore, 1) := by decide +kernel
theorem dX2_writeMade_38 : decode cX2_writeMade 38 = .ok (.aload_n 0, 1) := by decide +kernel
theorem dX2_writeMade_39 : decode cX2_writeMade 39 = .ok (.getfield 19, 3) := by decide +kernel
theorem dX2_writeMade_42 : decode cX2_writeMade 42 = .ok (.aload_n 0, 1) := by decide +kernel
theorem dX2_writeMade_43 : decode cX2_writeMade 43 = .ok (.getfield 25, 3) := by decide +kernel
theorem dX2_writeMade_46 : decode cX2_writeMade 46 = .ok (.iload_n 3, 1) := by decide +kernel
theorem dX2_writeMade_47 : decode cX2_writeMade 47 = .ok (.iastore, 1) := by decide +kernel
theorem dX2_writeMade_48 : decode cX2_writeMade 48 = .ok (.aload_n 0, 1) := by decide +kernel
theorem dX2_writeMade_49 : decode cX2_writeMade 49 = .ok (.getfield 22, 3) := by decide +kernel
theorem dX2_writeMade_52 : decode cX2_writeMade 52 = .ok (.aload_n 0, 1) := by decide +kernel
theorem dX2_writeMade_53 : decode cX2_writeMade 53 = .ok (.getfield 25, 3) := by decide +kernel
theorem dX2_writeMade_56 : decode cX2_writeMade 56 = .ok (.iload 4, 2) := by decide +kernel
theorem dX2_writeMade_58 : decode cX2_writeMade 58 = .ok (.iastore, 1) := by decide +kernel
theorem dX2_writeMade_59 : decode cX2_writeMade 59 = .ok (.aload_n 0, 1) := by decide +kernel
theorem dX2_writeMade_60 : decode cX2_writeMade 60 = .ok (.dup, 1) := by decide +kernel
theorem dX2_writeMade_61 : decode cX2_writeMade 61 = .ok (.getfield 25, 3) := by decide +kernel
theorem dX2_writeMade_64 : decode cX2_writeMade 64 = .ok (.iconst 1, 1) := by decide +kernel
theorem dX2_writeMade_65 : decode cX2_writeMade 65 = .ok (.iadd, 1) := by decide +kernel
theorem dX2_writeMade_66 : decode cX2_writeMade 66 = .ok (.putfield 25, 3) := by decide +kernel
theorem dX2_writeMade_69 : decode cX2_writeMade 69 = .ok (.aload_n 0, 1) := by decide +kernel
theorem dX2_writeMade_70 : decode cX2_writeMade 70 = .ok (.dup, 1) := by decide +kernel
theorem dX2_writeMade_71 : decode cX2_writeMade 71 = .ok (.getfield 33, 3) := by decide +kernel
theorem dX2_writeMade_74 : decode cX2_writeMade 74 = .ok (.iload_n 2, 1) := by decide +kernel
theorem dX2_writeMade_75 : decode cX2_writeMade 75 = .ok (.i2l, 1) := by decide +kernel
theorem dX2_writeMade_76 : decode cX2_writeMade 76 = .ok (.ladd, 1) := by decide +kernel
theorem dX2_writeMade_77 : decode cX2_writeMade 77 = .ok (.putfield 33, 3) := by decide +kernel
theorem dX2_writeMade_80 : decode cX2_writeMade 80 = .ok (.aload_n 0, 1) := by decide +kernel
theorem dX2_writeMade_81 : decode cX2_writeMade 81 = .ok (.dup, 1) := by decide +kernel
theorem dX2_writeMade_82 : decode cX2_writeMade 82 = .ok (.getfield 37, 3) := by decide +kernel
theorem dX2_writeMade_85 : decode cX2_writeMade 85 = .ok (.iload_n 3, 1) := by decide +kernel
theorem dX2_writeMade_86 : decode cX2_writeMade 86 = .ok (.i2l, 1) := by decide +kernel
theorem dX2_writeMade_87 : decode cX2_writeMade 87 = .ok (.ladd, 1) := by decide +kernel
theorem dX2_writeMade_88 : decode cX2_writeMade 88 = .ok (.putfield 37, 3) := by decide +kernel
theorem dX2_writeMade_91 : decode cX2_writeMade 91 = .ok (.aload_n 0, 1) := by decide +kernel
theorem dX2_writeMade_92 : decode cX2_writeMade 92 = .ok (.dup, 1) := by decide +kernel
theorem dX2_writeMade_93 : decode cX2_writeMade 93 = .ok (.getfield 40, 3) := by decide +kernel
theorem dX2_writeMade_96 : decode cX2_writeMade 96 = .ok (.iload 4, 2) := by decide +kernel
theorem dX2_writeMade_98 : decode cX2_writeMade 98 = .ok (.i2l, 1) := by decide +kernel
theorem dX2_writeMade_99 : decode cX2_writeMade 99 = .ok (.ladd, 1) := by decide +kernel
theorem dX2_writeMade_100 : decode cX2_writeMade 100 = .ok (.putfield 40, 3) := by decide +kernel
theorem dX2_writeMade_103 : decode cX2_writeMade 103 = .ok (.return_, 1) := by decide +kernel
theorem dX2_writeTrim_0 : decode cX2_writeTrim 0 = .ok (.aload_n 0, 1) := by decide +kernel
theorem dX2_writeTrim_1 : decode cX2_writeTrim 1 = .ok (.dup, 1) := by decide +kernel
theorem dX2_writeTrim_2 : decode cX2_writeTrim 2 = .ok (.getfield 43, 3) := by decide +kernel
theorem dX2_writeTrim_5 : decode cX2_writeTrim 5 = .ok (.iload_n 1, 1) := by decide +kernel
theorem dX2_writeTrim_6 : decode cX2_writeTrim 6 = .ok (.i2l, 1) := by decide +kernel
theorem dX2_writeTrim_7 : decode cX2_writeTrim 7 = .ok (.ladd, 1) := by decide +kernel
theorem dX2_writeTrim_8 : decode cX2_writeTrim 8 = .ok (.putfield 43, 3) := by decide +kernel
theorem dX2_writeTrim_11 : decode cX2_writeTrim 11 = .ok (.aload_n 0, 1) := by decide +kernel
theorem dX2_writeTrim_12 : decode cX2_writeTrim 12 = .ok (.dup, 1) := by decide +kernel
theorem dX2_writeTrim_13 : decode cX2_writeTrim 13 = .ok (.getfield 46, 3) := by decide +kernel
theorem dX2_writeTrim_16 : decode cX2_writeTrim 16 = .ok (.iconst 1, 1) := by decide +kernel
theorem dX2_writeTrim_17 : decode cX2_writeTrim 17 = .ok (.iadd, 1) := by decide +kernel
theorem dX2_writeTrim_18 : decode cX2_writeTrim 18 = .ok (.putfield 46, 3) := by decide +kernel
theorem dX2_writeTrim_21 : decode cX2_writeTrim 21 = .ok (.return_, 1) := by decide +kernel
theorem dX2_fibreStillThere_0 : decode cX2_fibreStillThere 0 = .ok (.iconst 0, 1) := by decide +kernel
theorem dX2_fibreStillThere_1 : decode cX2_fibreStillThere 1 = .ok (.istore_n 1, 1) := by decide +kernel
theorem dX2_fibreStillThere_2 : decode cX2_fibreStillThere 2 = .ok (.iconst 0, 1) := by decide +kernel
theorem dX2_fibreStillThere_3 : decode cX2_fibreStillThere 3 = .ok (.istore_n 2, 1) := by decide +kernel
theorem dX2_fibreStillThere_4 : decode cX2_fibreStillThere 4 = .ok (.iload_n 2, 1) := by decide +kernel
theorem dX2_fibreStillThere_5 : decode cX2_fibreStillThere 5 = .ok (.aload_n 0, 1) := by decide +kernel
theorem dX2_fibreStillThere_6 : decode cX2_fibreStillThere 6 = .ok (.getfield 25, 3) := by decide +kernel
theorem dX2_fibreStillThere_9 : decode cX2_fibreStillThere 9 = .ok (.if_icmp .ge 32, 3) := by decide +kernel
theorem dX2_fibreStillThere_12 : decode cX2_fibreStillThere 12 = .ok (.iload_n 1, 1) := by decide +kernel
theorem dX2_fibreStillThere_13 : decode cX2_fibreStillThere 13 = .ok (.aload_n 0, 1) := by decide +kernel
theorem dX2_fibreStillThere_14 : decode cX2_fibreStillThere 14 = .ok (.getfield 15, 3) := by decide +kernel
theorem dX2_fibreStillThere_17 : decode cX2_fibreStillThere 17 = .ok (.iload_n 2, 1) := by decide +kernel
theorem dX2_fibreStillThere_18 : decode cX2_fibreStillThere 18 = .ok (.iaload, 1) := by decide +kernel
theorem dX2_fibreStillThere_19 : decode cX2_fibreStillThere 19 = .ok (.aload_n 0, 1) := by decide +kernel
theorem dX2_fibreStillThere_20 : decode cX2_fibreStillThere 20 = .ok (.getfield 19, 3) := by decide +kernel
theorem dX2_fibreStillThere_23 : decode cX2_fibreStillThere 23 = .ok (.iload_n 2, 1) := by decide +kernel
theorem dX2_fibreStillThere_24 : decode cX2_fibreStillThere 24 = .ok (.iaload, 1) := by decide +kernel
theorem dX2_fibreStillThere_25 : decode cX2_fibreStillThere 25 = .ok (.isub, 1) := by decide +kernel
theorem dX2_fibreStillThere_26 : decode cX2_fibreStillThere 26 = .ok (.aload_n 0, 1) := by decide +kernel
theorem dX2_fibreStillThere_27 : decode cX2_fibreStillThere 27 = .ok (.getfield 22, 3) := by decide +kernel
theorem dX2_fibreStillThere_30 : decode cX2_fibreStillThere 30 = .ok (.iload_n 2, 1) := by decide +kernel
theorem dX2_fibreStillThere_31 : decode cX2_fibreStillThere 31 = .ok (.iaload, 1) := by decide +kernel
theorem dX2_fibreStillThere_32 : decode cX2_fibreStillThere 32 = .ok (.isub, 1) := by decide +kernel
theorem dX2_fibreStillThere_33 : decode cX2_fibreStillThere 33 = .ok (.iadd, 1) := by decide +kernel
theorem dX2_fibreStillThere_34 : decode cX2_fibreStillThere 34 = .ok (.istore_n 1, 1) := by decide +kernel
theorem dX2_fibreStillThere_35 : decode cX2_fibreStillThere 35 = .ok (.iinc 2 1, 3) := by decide +kernel
theorem dX2_fibreStillThere_38 : decode cX2_fibreStillThere 38 = .ok (.goto (-34), 3) := by decide +kernel
theorem dX2_fibreStillThere_41 : decode cX2_fibreStillThere 41 = .ok (.iload_n 1, 1) := by decide +kernel
theorem dX2_fibreStillThere_42 : decode cX2_fibreStillThere 42 = .ok (.ireturn, 1) := by decide +kernel
theorem dX3_init_0 : decode cX3_init 0 = .ok (.aload_n 0, 1) := by decide +kernel
theorem dX3_init_1 : decode cX3_init 1 = .ok (.invokespecial 3, 3) := by decide +kernel
theorem dX3_init_4 : decode cX3_init 4 = .ok (.aload_n 0, 1) := by decide +kernel
theorem dX3_init_5 : decode cX3_init 5 = .ok (.bipush 10, 2) := by decide +kernel
theorem dX3_init_7 : decode cX3_init 7 = .ok (.newarray .int, 2) := by decide +kernel
theorem dX3_init_9 : decode cX3_init 9 = .ok (.putfield 9, 3) := by decide +kernel
theorem dX3_init_12 : decode cX3_init 12 = .ok (.aload_n 0, 1) := by decide +kernel
theorem dX3_init_13 : decode cX3_init 13 = .ok (.bipush 10, 2) := by decide +kernel
theorem dX3_init_15 : decode cX3_init 15 = .ok (.newarray .int, 2) := by decide +kernel
theorem dX3_init_17 : decode cX3_init 17 = .ok (.putfield 15, 3) := by decide +kernel
theorem dX3_init_20 : decode cX3_init 20 = .ok (.aload_n 0, 1) := by decide +kernel
theorem dX3_init_21 : decode cX3_init 21 = .ok (.bipush 10, 2) := by decide +kernel
theorem dX3_init_23 : decode cX3_init 23 = .ok (.newarray .int, 2) := by decide +kernel
theorem dX3_init_25 : decode cX3_init 25 = .ok (.putfield 18, 3) := by decide +kernel
theorem dX3_init_28 : decode cX3_init 28 = .ok (.aload_n 0, 1) := by decide +kernel
theorem dX3_init_29 : decode cX3_init 29 = .ok (.bipush 10, 2) := by decide +kernel
theorem dX3_init_31 : decode cX3_init 31 = .ok (.newarray .int, 2) := by decide +kernel
theorem dX3_init_33 : decode cX3_init 33 = .ok (.putfield 21, 3) := by decide +kernel
theorem dX3_init_36 : decode cX3_init 36 = .ok (.return_, 1) := by decide +kernel
theorem dX3_has_0 : decode cX3_has 0 = .ok (.iload_n 1, 1) := by decide +kernel
theorem dX3_has_1 : decode cX3_has 1 = .ok (.ifCond .lt 15, 3) := by decide +kernel
theorem dX3_has_4 : decode cX3_has 4 = .ok (.iload_n 1, 1) := by decide +kernel
theorem dX3_has_5 : decode cX3_has 5 = .ok (.aload_n 0, 1) := by decide +kernel
theorem dX3_has_6 : decode cX3_has 6 = .ok (.getfield 24, 3) := by decide +kernel
theorem dX3_has_9 : decode cX3_has 9 = .ok (.if_icmp .ge 7, 3) := by decide +kernel
theorem dX3_has_12 : decode cX3_has 12 = .ok (.iconst 1, 1) := by decide +kernel
theorem dX3_has_13 : decode cX3_has 13 = .ok (.goto 4, 3) := by decide +kernel
theorem dX3_has_16 : decode cX3_has 16 = .ok (.iconst 0, 1) := by decide +kernel
theorem dX3_has_17 : decode cX3_has 17 = .ok (.ireturn, 1) := by decide +kernel
theorem dX3_isFull_0 : decode cX3_isFull 0 = .ok (.aload_n 0, 1) := by decide +kernel
theorem dX3_isFull_1 : decode cX3_isFull 1 = .ok (.getfield 24, 3) := by decide +kernel
theorem dX3_isFull_4 : decode cX3_isFull 4 = .ok (.bipush 10, 2) := by decide +kernel
theorem dX3_isFull_6 : decode cX3_isFull 6 = .ok (.if_icmp .lt 7, 3) := by decide +kernel
theorem dX3_isFull_9 : decode cX3_isFull 9 = .ok (.iconst 1, 1) := by decide +kernel
theorem dX3_isFull_10 : decode cX3_isFull 10 = .ok (.goto 4, 3) := by decide +kernel
theorem dX3_isFull_13 : decode cX3_isFull 13 = .ok (.iconst 0, 1) := by decide +kernel
theorem dX3_isFull_14 : decode cX3_isFull 14 = .ok (.ireturn, 1) := by decide +kernel
set_option maxRecDepth 20000 in
theorem ggX3_write_X3_isFull : GoodIn wsX3_write wsX3_isFull := goodIn_r _ [10, 1, 11, 12, 13, 14, 15] (by decide +kernel) (by decide +kernel)
set_option maxRecDepth 20000 in
theorem gX3_write_X3_isFull : GoodIn wsX3_write (wsV RX3 28 RX3 yX3_isFull wsX3_isFull) := goodIn_app (goodIn_of _ (by decide +kernel)) ggX3_write_X3_isFull
theorem dX3_write_0 : decode cX3_write 0 = .ok (.aload_n 0, 1) := by decide +kernel
theorem dX3_write_1 : decode cX3_write 1 = .ok (.invokevirtual 28, 3) := by decide +kernel
theorem dX3_write_4 : decode cX3_write 4 = .ok (.ifCond .eq 5, 3) := by decide +kernel
theorem dX3_write_7 : decode cX3_write 7 = .ok (.iconst (-1), 1) := by decide +kernel
theorem dX3_write_8 : decode cX3_write 8 = .ok (.ireturn, 1) := by decide +kernel
theorem dX3_write_9 : decode cX3_write 9 = .ok (.aload_n 0, 1) := by decide +kernel
theorem dX3_write_10 : decode cX3_write 10 = .ok (.getfield 24, 3) := by decide +kernel
theorem dX3_write_13 : decode cX3_write 13 = .ok (.istore 4, 2) := by decide +kernel
theorem dX3_write_15 : decode cX3_write 15 = .ok (.aload_n 0, 1) := by decide +kernel
theorem dX3_write_16 : decode cX3_write 16 = .ok (.getfield 9, 3) := by decide +kernel
theorem dX3_write_19 : decode cX3_write 19 = .ok (.iload 4, 2) := by decide +kernel
theorem dX3_write_21 : decode cX3_write 21 = .ok (.iload_n 1, 1) := by decide +kernel
theorem dX3_write_22 : decode cX3_write 22 = .ok (.iastore, 1) := by decide +kernel
theorem dX3_write_23 : decode cX3_write 23 = .ok (.aload_n 0, 1) := by decide +kernel
theorem dX3_write_24 : decode cX3_write 24 = .ok (.getfield 15, 3) := by decide +kernel
theorem dX3_write_27 : decode cX3_write 27 = .ok (.iload 4, 2) := by decide +kernel
theorem dX3_write_29 : decode cX3_write 29 = .ok (.iload_n 2, 1) := by decide +kernel
theorem dX3_write_30 : decode cX3_write 30 = .ok (.iastore, 1) := by decide +kernel
theorem dX3_write_31 : decode cX3_write 31 = .ok (.aload_n 0, 1) := by decide +kernel
theorem dX3_write_32 : decode cX3_write 32 = .ok (.getfield 18, 3) := by decide +kernel
theorem dX3_write_35 : decode cX3_write 35 = .ok (.iload 4, 2) := by decide +kernel
theorem dX3_write_37 : decode cX3_write 37 = .ok (.iconst 0, 1) := by decide +kernel
theorem dX3_write_38 : decode cX3_write 38 = .ok (.iastore, 1) := by decide +kernel
theorem dX3_write_39 : decode cX3_write 39 = .ok (.aload_n 0, 1) := by decide +kernel
theorem dX3_write_40 : decode cX3_write 40 = .ok (.getfield 21, 3) := by decide +kernel
theorem dX3_write_43 : decode cX3_write 43 = .ok (.iload 4, 2) := by decide +kernel
theorem dX3_write_45 : decode cX3_write 45 = .ok (.iload_n 3, 1) := by decide +kernel
theorem dX3_write_46 : decode cX3_write 46 = .ok (.iastore, 1) := by decide +kernel
theorem dX3_write_47 : decode cX3_write 47 = .ok (.aload_n 0, 1) := by decide +kernel
theorem dX3_write_48 : decode cX3_write 48 = .ok (.dup, 1) := by decide +kernel
theorem dX3_write_49 : decode cX3_write 49 = .ok (.getfield 24, 3) := by decide +kernel
theorem dX3_write_52 : decode cX3_write 52 = .ok (.iconst 1, 1) := by decide +kernel
theorem dX3_write_53 : decode cX3_write 53 = .ok (.iadd, 1) := by decide +kernel
theorem dX3_write_54 : decode cX3_write 54 = .ok (.putfield 24, 3) := by decide +kernel
theorem dX3_write_57 : decode cX3_write 57 = .ok (.iload 4, 2) := by decide +kernel
theorem dX3_write_59 : decode cX3_write 59 = .ok (.ireturn, 1) := by decide +kernel
theorem dX3_widestOpen_0 : decode cX3_widestOpen 0 = .ok (.iconst 0, 1) := by decide +kernel
theorem dX3_widestOpen_1 : decode cX3_widestOpen 1 = .ok (.istore_n 1, 1) := by decide +kernel
theorem dX3_widestOpen_2 : decode cX3_widestOpen 2 = .ok (.iconst 0, 1) := by decide +kernel
theorem dX3_widestOpen_3 : decode cX3_widestOpen 3 = .ok (.istore_n 2, 1) := by decide +kernel
theorem dX3_widestOpen_4 : decode cX3_widestOpen 4 = .ok (.iload_n 2, 1) := by decide +kernel
theorem dX3_widestOpen_5 : decode cX3_widestOpen 5 = .ok (.aload_n 0, 1) := by decide +kernel
theorem dX3_widestOpen_6 : decode cX3_widestOpen 6 = .ok (.getfield 24, 3) := by decide +kernel
theorem dX3_widestOpen_9 : decode cX3_widestOpen 9 = .ok (.if_icmp .ge 29, 3) := by decide +kernel
theorem dX3_widestOpen_12 : decode cX3_widestOpen 12 = .ok (.aload_n 0, 1) := by decide +kernel
theorem dX3_widestOpen_13 : decode cX3_widestOpen 13 = .ok (.getfield 21, 3) := by decide +kernel
theorem dX3_widestOpen_16 : decode cX3_widestOpen 16 = .ok (.iload_n 2, 1) := by decide +kernel
theorem dX3_widestOpen_17 : decode cX3_widestOpen 17 = .ok (.iaload, 1) := by decide +kernel
theorem dX3_widestOpen_18 : decode cX3_widestOpen 18 = .ok (.ifCond .le 14, 3) := by decide +kernel
theorem dX3_widestOpen_21 : decode cX3_widestOpen 21 = .ok (.iload_n 1, 1) := by decide +kernel
theorem dX3_widestOpen_22 : decode cX3_widestOpen 22 = .ok (.aload_n 0, 1) := by decide +kernel
theorem dX3_widestOpen_23 : decode cX3_widestOpen 23 = .ok (.getfield 15, 3) := by decide +kernel
theorem dX3_widestOpen_26 : decode cX3_widestOpen 26 = .ok (.iload_n 2, 1) := by decide +kernel
theorem dX3_widestOpen_27 : decode cX3_widestOpen 27 = .ok (.iaload, 1) := by decide +kernel
theorem dX3_widestOpen_28 : decode cX3_widestOpen 28 = .ok (.invokestatic 32, 3) := by decide +kernel
theorem dX3_widestOpen_31 : decode cX3_widestOpen 31 = .ok (.istore_n 1, 1) := by decide +kernel
theorem dX3_widestOpen_32 : decode cX3_widestOpen 32 = .ok (.iinc 2 1, 3) := by decide +kernel
theorem dX3_widestOpen_35 : decode cX3_widestOpen 35 = .ok (.goto (-31), 3) := by decide +kernel
theorem dX3_widestOpen_38 : decode cX3_widestOpen 38 = .ok (.iload_n 1, 1) := by decide +kernel
theorem dX3_widestOpen_39 : decode cX3_widestOpen 39 = .ok (.ireturn, 1) := by decide +kernel
theorem dX3_rollsLacking_0 : decode cX3_rollsLacking 0 = .ok (.iconst 0, 1) := by decide +kernel
theorem dX3_rollsLacking_1 : decode cX3_rollsLacking 1 = .ok (.istore_n 2, 1) := by decide +kernel
theorem dX3_rollsLacking_2 : decode cX3_rollsLacking 2 = .ok (.iconst 0, 1) := by decide +kernel
theorem dX3_rollsLacking_3 : decode cX3_rollsLacking 3 = .ok (.istore_n 3, 1) := by decide +kernel
theorem dX3_rollsLacking_4 : decode cX3_rollsLacking 4 = .ok (.iload_n 3, 1) := by decide +kernel
theorem dX3_rollsLacking_5 : decode cX3_rollsLacking 5 = .ok (.aload_n 0, 1) := by decide +kernel
theorem dX3_rollsLacking_6 : decode cX3_rollsLacking 6 = .ok (.getfield 24, 3) := by decide +kernel
theorem dX3_rollsLacking_9 : decode cX3_rollsLacking 9 = .ok (.if_icmp .ge 28, 3) := by decide +kernel
theorem dX3_rollsLacking_12 : decode cX3_rollsLacking 12 = .ok (.aload_n 0, 1) := by decide +kernel
theorem dX3_rollsLacking_13 : decode cX3_rollsLacking 13 = .ok (.getfield 9, 3) := by decide +kernel
theorem dX3_rollsLacking_16 : decode cX3_rollsLacking 16 = .ok (.iload_n 3, 1) := by decide +kernel
theorem dX3_rollsLacking_17 : decode cX3_rollsLacking 17 = .ok (.iaload, 1) := by decide +kernel
theorem dX3_rollsLacking_18 : decode cX3_rollsLacking 18 = .ok (.iload_n 1, 1) := by decide +kernel
theorem dX3_rollsLacking_19 : decode cX3_rollsLacking 19 = .ok (.if_icmp .ne 12, 3) := by decide +kernel
theorem dX3_rollsLacking_22 : decode cX3_rollsLacking 22 = .ok (.iload_n 2, 1) := by decide +kernel
theorem dX3_rollsLacking_23 : decode cX3_rollsLacking 23 = .ok (.aload_n 0, 1) := by decide +kernel
theorem dX3_rollsLacking_24 : decode cX3_rollsLacking 24 = .ok (.getfield 21, 3) := by decide +kernel
theorem dX3_rollsLacking_27 : decode cX3_rollsLacking 27 = .ok (.iload_n 3, 1) := by decide +kernel
theorem dX3_rollsLacking_28 : decode cX3_rollsLacking 28 = .ok (.iaload, 1) := by decide +kernel
theorem dX3_rollsLacking_29 : decode cX3_rollsLacking 29 = .ok (.iadd, 1) := by decide +kernel
theorem dX3_rollsLacking_30 : decode cX3_rollsLacking 30 = .ok (.istore_n 2, 1) := by decide +kernel
theorem dX3_rollsLacking_31 : decode cX3_rollsLacking 31 = .ok (.iinc 3 1, 3) := by decide +kernel
theorem dX3_rollsLacking_34 : decode cX3_rollsLacking 34 = .ok (.goto (-30), 3) := by decide +kernel
theorem dX3_rollsLacking_37 : decode cX3_rollsLacking 37 = .ok (.iload_n 2, 1) := by decide +kernel
theorem dX3_rollsLacking_38 : decode cX3_rollsLacking 38 = .ok (.ireturn, 1) := by decide +kernel
theorem dX3_widthLacking_0 : decode cX3_widthLacking 0 = .ok (.iconst 0, 1) := by decide +kernel
theorem dX3_widthLacking_1 : decode cX3_widthLacking 1 = .ok (.istore_n 2, 1) := by decide +kernel
theorem dX3_widthLacking_2 : decode cX3_widthLacking 2 = .ok (.iconst 0, 1) := by decide +kernel
theorem dX3_widthLacking_3 : decode cX3_widthLacking 3 = .ok (.istore_n 3, 1) := by decide +kernel
theorem dX3_widthLacking_4 : decode cX3_widthLacking 4 = .ok (.iload_n 3, 1) := by decide +kernel
theorem dX3_widthLacking_5 : decode cX3_widthLacking 5 = .ok (.aload_n 0, 1) := by decide +kernel
theorem dX3_widthLacking_6 : decode cX3_widthLacking 6 = .ok (.getfield 24, 3) := by decide +kernel
theorem dX3_widthLacking_9 : decode cX3_widthLacking 9 = .ok (.if_icmp .ge 35, 3) := by decide +kernel
theorem dX3_widthLacking_12 : decode cX3_widthLacking 12 = .ok (.aload_n 0, 1) := by decide +kernel
theorem dX3_widthLacking_13 : decode cX3_widthLacking 13 = .ok (.getfield 9, 3) := by decide +kernel
theorem dX3_widthLacking_16 : decode cX3_widthLacking 16 = .ok (.iload_n 3, 1) := by decide +kernel
theorem dX3_widthLacking_17 : decode cX3_widthLacking 17 = .ok (.iaload, 1) := by decide +kernel
theorem dX3_widthLacking_18 : decode cX3_widthLacking 18 = .ok (.iload_n 1, 1) := by decide +kernel
theorem dX3_widthLacking_19 : decode cX3_widthLacking 19 = .ok (.if_icmp .ne 19, 3) := by decide +kernel
theorem dX3_widthLacking_22 : decode cX3_widthLacking 22 = .ok (.iload_n 2, 1) := by decide +kernel
theorem dX3_widthLacking_23 : decode cX3_widthLacking 23 = .ok (.aload_n 0, 1) := by decide +kernel
theorem dX3_widthLacking_24 : decode cX3_widthLacking 24 = .ok (.getfield 21, 3) := by decide +kernel
theorem dX3_widthLacking_27 : decode cX3_widthLacking 27 = .ok (.iload_n 3, 1) := by decide +kernel
theorem dX3_widthLacking_28 : decode cX3_widthLacking 28 = .ok (.iaload, 1) := by decide +kernel
theorem dX3_widthLacking_29 : decode cX3_widthLacking 29 = .ok (.aload_n 0, 1) := by decide +kernel
theorem dX3_widthLacking_30 : decode cX3_widthLacking 30 = .ok (.getfield 15, 3) := by decide +kernel
theorem dX3_widthLacking_33 : decode cX3_widthLacking 33 = .ok (.iload_n 3, 1) := by decide +kernel
theorem dX3_widthLacking_34 : decode cX3_widthLacking 34 = .ok (.iaload, 1) := by decide +kernel
theorem dX3_widthLacking_35 : decode cX3_widthLacking 35 = .ok (.imul, 1) := by decide +kernel
theorem dX3_widthLacking_36 : decode cX3_widthLacking 36 = .ok (.iadd, 1) := by decide +kernel
theorem dX3_widthLacking_37 : decode cX3_widthLacking 37 = .ok (.istore_n 2, 1) := by decide +kernel
theorem dX3_widthLacking_38 : decode cX3_widthLacking 38 = .ok (.iinc 3 1, 3) := by decide +kernel
theorem dX3_widthLacking_41 : decode cX3_widthLacking 41 = .ok (.goto (-37), 3) := by decide +kernel
theorem dX3_widthLacking_44 : decode cX3_widthLacking 44 = .ok (.iload_n 2, 1) := by decide +kernel
theorem dX3_widthLacking_45 : decode cX3_widthLacking 45 = .ok (.ireturn, 1) := by decide +kernel
theorem dX3_takeOff_0 : decode cX3_takeOff 0 = .ok (.iconst 0, 1) := by decide +kernel
theorem dX3_takeOff_1 : decode cX3_takeOff 1 = .ok (.istore_n 2, 1) := by decide +kernel
theorem dX3_takeOff_2 : decode cX3_takeOff 2 = .ok (.iconst 0, 1) := by decide +kernel
theorem dX3_takeOff_3 : decode cX3_takeOff 3 = .ok (.istore_n 3, 1) := by decide +kernel
theorem dX3_takeOff_4 : decode cX3_takeOff 4 = .ok (.iload_n 3, 1) := by decide +kernel
theorem dX3_takeOff_5 : decode cX3_takeOff 5 = .ok (.aload_n 0, 1) := by decide +kernel
theorem dX3_takeOff_6 : decode cX3_takeOff 6 = .ok (.getfield 24, 3) := by decide +kernel
theorem dX3_takeOff_9 : decode cX3_takeOff 9 = .ok (.if_icmp .ge 45, 3) := by decide +kernel
theorem dX3_takeOff_12 : decode cX3_takeOff 12 = .ok (.iload_n 3, 1) := by decide +kernel
theorem dX3_takeOff_13 : decode cX3_takeOff 13 = .ok (.aload_n 1, 1) := by decide +kernel
theorem dX3_takeOff_14 : decode cX3_takeOff 14 = .ok (.arraylength, 1) := by decide +kernel
theorem dX3_takeOff_15 : decode cX3_takeOff 15 = .ok (.if_icmp .ge 39, 3) := by decide +kernel
theorem dX3_takeOff_18 : decode cX3_takeOff 18 = .ok (.aload_n 0, 1) := by decide +kernel
theorem dX3_takeOff_19 : decode cX3_takeOff 19 = .ok (.getfield 18, 3) := by decide +kernel
theorem dX3_takeOff_22 : decode cX3_takeOff 22 = .ok (.iload_n 3, 1) := by decide +kernel
theorem dX3_takeOff_23 : decode cX3_takeOff 23 = .ok (.dup2, 1) := by decide +kernel
theorem dX3_takeOff_24 : decode cX3_takeOff 24 = .ok (.iaload, 1) := by decide +kernel
theorem dX3_takeOff_25 : decode cX3_takeOff 25 = .ok (.aload_n 1, 1) := by decide +kernel
theorem dX3_takeOff_26 : decode cX3_takeOff 26 = .ok (.iload_n 3, 1) := by decide +kernel
theorem dX3_takeOff_27 : decode cX3_takeOff 27 = .ok (.iaload, 1) := by decide +kernel
theorem dX3_takeOff_28 : decode cX3_takeOff 28 = .ok (.iadd, 1) := by decide +kernel
theorem dX3_takeOff_29 : decode cX3_takeOff 29 = .ok (.iastore, 1) := by decide +kernel
theorem dX3_takeOff_30 : decode cX3_takeOff 30 = .ok (.aload_n 0, 1) := by decide +kernel
theorem dX3_takeOff_31 : decode cX3_takeOff 31 = .ok (.getfield 21, 3) := by decide +kernel
theorem dX3_takeOff_34 : decode cX3_takeOff 34 = .ok (.iload_n 3, 1) := by decide +kernel
theorem dX3_takeOff_35 : decode cX3_takeOff 35 = .ok (.dup2, 1) := by decide +kernel
theorem dX3_takeOff_36 : decode cX3_takeOff 36 = .ok (.iaload, 1) := by decide +kernel
theorem dX3_takeOff_37 : decode cX3_takeOff 37 = .ok (.aload_n 1, 1) := by decide +kernel
theorem dX3_takeOff_38 : decode cX3_takeOff 38 = .ok (.iload_n 3, 1) := by decide +kernel
theorem dX3_takeOff_39 : decode cX3_takeOff 39 = .ok (.iaload, 1) := by decide +kernel
theorem dX3_takeOff_40 : decode cX3_takeOff 40 = .ok (.isub, 1) := by decide +kernel
theorem dX3_takeOff_41 : decode cX3_takeOff 41 = .ok (.iastore, 1) := by decide +kernel
theorem dX3_takeOff_42 : decode cX3_takeOff 42 = .ok (.iload_n 2, 1) := by decide +kernel
theorem dX3_takeOff_43 : decode cX3_takeOff 43 = .ok (.aload_n 1, 1) := by decide +kernel
theorem dX3_takeOff_44 : decode cX3_takeOff 44 = .ok (.iload_n 3, 1) := by decide +kernel
theorem dX3_takeOff_45 : decode cX3_takeOff 45 = .ok (.iaload, 1) := by decide +kernel
theorem dX3_takeOff_46 : decode cX3_takeOff 46 = .ok (.iadd, 1) := by decide +kernel
theorem dX3_takeOff_47 : decode cX3_takeOff 47 = .ok (.istore_n 2, 1) := by decide +kernel
theorem dX3_takeOff_48 : decode cX3_takeOff 48 = .ok (.iinc 3 1, 3) := by decide +kernel
theorem dX3_takeOff_51 : decode cX3_takeOff 51 = .ok (.goto (-47), 3) := by decide +kernel
theorem dX3_takeOff_54 : decode cX3_takeOff 54 = .ok (.iload_n 2, 1) := by decide +kernel
theorem dX3_takeOff_55 : decode cX3_takeOff 55 = .ok (.ireturn, 1) := by decide +kernel
set_option maxRecDepth 20000 in
theorem ggX4_init_X3_init : GoodIn wsX4_init wsX3_init := goodIn_r _ [27, 28, 2, 3, 4, 29, 30, 31, 32, 69, 70, 71, 72, 73] (by decide +kernel) (by decide +kernel)
set_option maxRecDepth 20000 in
theorem gX4_init_X3_init_n26 : GoodIn wsX4_init (wsX3_init) := ggX4_init_X3_init
set_option maxRecDepth 20000 in
theorem ggX4_init_X1_init : GoodIn wsX4_init wsX1_init := goodIn_r _ [34, 35, 2, 3, 4, 36, 37, 38, 39, 40, 41, 74, 75, 76, 77, 78, 79, 80, 81] (by decide +kernel) (by decide +kernel)
set_option maxRecDepth 20000 in
theorem gX4_init_X1_init_n33 : GoodIn wsX4_init (wsX1_init) := ggX4_init_X1_init
set_option maxRecDepth 20000 in
theorem ggX4_init_X0_init : GoodIn wsX4_init wsX0_init := goodIn_r _ [43, 44, 2, 3, 45, 46, 47, 82, 83, 84] (by decide +kernel) (by decide +kernel)
set_option maxRecDepth 20000 in
theorem gX4_init_X0_init_n40 : GoodIn wsX4_init (wsX0_init) := ggX4_init_X0_init
set_option maxRecDepth 20000 in
theorem ggX4_init_X2_init : GoodIn wsX4_init wsX2_init := goodIn_r _ [49, 50, 2, 3, 51, 52, 4, 53, 54, 55, 85, 86, 87, 88, 89, 90, 91, 92, 93, 94, 95] (by decide +kernel) (by decide +kernel)
set_option maxRecDepth 20000 in
theorem gX4_init_X2_init_n47 : GoodIn wsX4_init (wsX2_init) := ggX4_init_X2_init
theorem dX4_init_0 : decode cX4_init 0 = .ok (.aload_n 0, 1) := by decide +kernel
theorem dX4_init_1 : decode cX4_init 1 = .ok (.invokespecial 1, 3) := by decide +kernel
theorem dX4_init_4 : decode cX4_init 4 = .ok (.aload_n 0, 1) := by decide +kernel
theorem dX4_init_5 : decode cX4_init 5 = .ok (.bipush 6, 2) := by decide +kernel
theorem dX4_init_7 : decode cX4_init 7 = .ok (.newarray .int, 2) := by decide +kernel
theorem dX4_init_9 : decode cX4_init 9 = .ok (.putfield 9, 3) := by decide +kernel
theorem dX4_init_12 : decode cX4_init 12 = .ok (.aload_n 0, 1) := by decide +kernel
theorem dX4_init_13 : decode cX4_init 13 = .ok (.sipush 600, 3) := by decide +kernel
theorem dX4_init_16 : decode cX4_init 16 = .ok (.putfield 13, 3) := by decide +kernel
theorem dX4_init_19 : decode cX4_init 19 = .ok (.aload_n 0, 1) := by decide +kernel
theorem dX4_init_20 : decode cX4_init 20 = .ok (.iconst (-1), 1) := by decide +kernel
theorem dX4_init_21 : decode cX4_init 21 = .ok (.putfield 17, 3) := by decide +kernel
theorem dX4_init_24 : decode cX4_init 24 = .ok (.aload_n 0, 1) := by decide +kernel
theorem dX4_init_25 : decode cX4_init 25 = .ok (.iconst 1, 1) := by decide +kernel
theorem dX4_init_26 : decode cX4_init 26 = .ok (.putfield 20, 3) := by decide +kernel
theorem dX4_init_29 : decode cX4_init 29 = .ok (.aload_n 0, 1) := by decide +kernel
theorem dX4_init_30 : decode cX4_init 30 = .ok (.new 24, 3) := by decide +kernel
theorem dX4_init_33 : decode cX4_init 33 = .ok (.dup, 1) := by decide +kernel
theorem dX4_init_34 : decode cX4_init 34 = .ok (.invokespecial 26, 3) := by decide +kernel
theorem dX4_init_37 : decode cX4_init 37 = .ok (.putfield 27, 3) := by decide +kernel
theorem dX4_init_40 : decode cX4_init 40 = .ok (.aload_n 0, 1) := by decide +kernel
theorem dX4_init_41 : decode cX4_init 41 = .ok (.new 31, 3) := by decide +kernel
theorem dX4_init_44 : decode cX4_init 44 = .ok (.dup, 1) := by decide +kernel
theorem dX4_init_45 : decode cX4_init 45 = .ok (.invokespecial 33, 3) := by decide +kernel
theorem dX4_init_48 : decode cX4_init 48 = .ok (.putfield 34, 3) := by decide +kernel
theorem dX4_init_51 : decode cX4_init 51 = .ok (.aload_n 0, 1) := by decide +kernel
theorem dX4_init_52 : decode cX4_init 52 = .ok (.new 38, 3) := by decide +kernel
theorem dX4_init_55 : decode cX4_init 55 = .ok (.dup, 1) := by decide +kernel
theorem dX4_init_56 : decode cX4_init 56 = .ok (.invokespecial 40, 3) := by decide +kernel
theorem dX4_init_59 : decode cX4_init 59 = .ok (.putfield 41, 3) := by decide +kernel
theorem dX4_init_62 : decode cX4_init 62 = .ok (.aload_n 0, 1) := by decide +kernel
theorem dX4_init_63 : decode cX4_init 63 = .ok (.new 45, 3) := by decide +kernel
theorem dX4_init_66 : decode cX4_init 66 = .ok (.dup, 1) := by decide +kernel
theorem dX4_init_67 : decode cX4_init 67 = .ok (.invokespecial 47, 3) := by decide +kernel
theorem dX4_init_70 : decode cX4_init 70 = .ok (.putfield 48, 3) := by decide +kernel
theorem dX4_init_73 : decode cX4_init 73 = .ok (.aload_n 0, 1) := by decide +kernel
theorem dX4_init_74 : decode cX4_init 74 = .ok (.bipush 20, 2) := by decide +kernel
theorem dX4_init_76 : decode cX4_init 76 = .ok (.putfield 52, 3) := by decide +kernel
theorem dX4_init_79 : decode cX4_init 79 = .ok (.return_, 1) := by decide +kernel
set_option maxRecDepth 20000 in
theorem ggX4_addGrade_X4_isWithin : GoodIn wsX4_addGrade wsX4_isWithin := goodIn_r _ [10] (by decide +kernel) (by decide +kernel)
set_option maxRecDepth 20000 in
theorem gX4_addGrade_X4_isWithin : GoodIn wsX4_addGrade (va_wsS RX4 55 yX4_isWithin wsX4_isWithin) := goodIn_app (goodIn_of _ (by decide +kernel)) ggX4_addGrade_X4_isWithin
set_option maxRecDepth 20000 in
theorem ggX4_addGrade_X4_isWeightTaken : GoodIn wsX4_addGrade wsX4_isWeightTaken := goodIn_ca (goodIn_r _ [14, 5, 6, 15, 16, 17, 18, 19, 20, 21, 22, 23, 24, 25, 26, 27] (by decide +kernel) (by decide +kernel)) (goodIn_sub (fun _ h => List.mem_cons_of_mem _ (List.mem_append_right _ h)) (by decide +kernel))
set_option maxRecDepth 20000 in
theorem gX4_addGrade_X4_isWeightTaken : GoodIn wsX4_addGrade (wsV RX4 59 RX4 yX4_isWeightTaken wsX4_isWeightTaken) := goodIn_app (goodIn_of _ (by decide +kernel)) ggX4_addGrade_X4_isWeightTaken
theorem dX4_addGrade_0 : decode cX4_addGrade 0 = .ok (.iload_n 1, 1) := by decide +kernel
theorem dX4_addGrade_1 : decode cX4_addGrade 1 = .ok (.bipush 40, 2) := by decide +kernel
theorem dX4_addGrade_3 : decode cX4_addGrade 3 = .ok (.sipush 200, 3) := by decide +kernel
theorem dX4_addGrade_6 : decode cX4_addGrade 6 = .ok (.invokestatic 55, 3) := by decide +kernel
theorem dX4_addGrade_9 : decode cX4_addGrade 9 = .ok (.ifCond .eq 11, 3) := by decide +kernel
theorem dX4_addGrade_12 : decode cX4_addGrade 12 = .ok (.aload_n 0, 1) := by decide +kernel
theorem dX4_addGrade_13 : decode cX4_addGrade 13 = .ok (.iload_n 1, 1) := by decide +kernel
theorem dX4_addGrade_14 : decode cX4_addGrade 14 = .ok (.invokevirtual 59, 3) := by decide +kernel
theorem dX4_addGrade_17 : decode cX4_addGrade 17 = .ok (.ifCond .eq 13, 3) := by decide +kernel
theorem dX4_addGrade_20 : decode cX4_addGrade 20 = .ok (.new 63, 3) := by decide +kernel
theorem dX4_addGrade_23 : decode cX4_addGrade 23 = .ok (.dup, 1) := by decide +kernel
theorem dX4_addGrade_24 : decode cX4_addGrade 24 = .ok (.ldc 65, 2) := by decide +kernel
theorem dX4_addGrade_26 : decode cX4_addGrade 26 = .ok (.invokespecial 67, 3) := by decide +kernel
theorem dX4_addGrade_29 : decode cX4_addGrade 29 = .ok (.athrow, 1) := by decide +kernel
theorem dX4_addGrade_30 : decode cX4_addGrade 30 = .ok (.aload_n 0, 1) := by decide +kernel
theorem dX4_addGrade_31 : decode cX4_addGrade 31 = .ok (.getfield 70, 3) := by decide +kernel
theorem dX4_addGrade_34 : decode cX4_addGrade 34 = .ok (.aload_n 0, 1) := by decide +kernel
theorem dX4_addGrade_35 : decode cX4_addGrade 35 = .ok (.getfield 9, 3) := by decide +kernel
theorem dX4_addGrade_38 : decode cX4_addGrade 38 = .ok (.arraylength, 1) := by decide +kernel
theorem dX4_addGrade_39 : decode cX4_addGrade 39 = .ok (.if_icmp .lt 13, 3) := by decide +kernel
theorem dX4_addGrade_42 : decode cX4_addGrade 42 = .ok (.new 73, 3) := by decide +kernel
theorem dX4_addGrade_45 : decode cX4_addGrade 45 = .ok (.dup, 1) := by decide +kernel
theorem dX4_addGrade_46 : decode cX4_addGrade 46 = .ok (.ldc 75, 2) := by decide +kernel
theorem dX4_addGrade_48 : decode cX4_addGrade 48 = .ok (.invokespecial 77, 3) := by decide +kernel
theorem dX4_addGrade_51 : decode cX4_addGrade 51 = .ok (.athrow, 1) := by decide +kernel
theorem dX4_addGrade_52 : decode cX4_addGrade 52 = .ok (.aload_n 0, 1) := by decide +kernel
theorem dX4_addGrade_53 : decode cX4_addGrade 53 = .ok (.getfield 70, 3) := by decide +kernel
theorem dX4_addGrade_56 : decode cX4_addGrade 56 = .ok (.istore_n 2, 1) := by decide +kernel
theorem dX4_addGrade_57 : decode cX4_addGrade 57 = .ok (.aload_n 0, 1) := by decide +kernel
theorem dX4_addGrade_58 : decode cX4_addGrade 58 = .ok (.getfield 9, 3) := by decide +kernel
theorem dX4_addGrade_61 : decode cX4_addGrade 61 = .ok (.iload_n 2, 1) := by decide +kernel
theorem dX4_addGrade_62 : decode cX4_addGrade 62 = .ok (.iload_n 1, 1) := by decide +kernel
theorem dX4_addGrade_63 : decode cX4_addGrade 63 = .ok (.iastore, 1) := by decide +kernel
theorem dX4_addGrade_64 : decode cX4_addGrade 64 = .ok (.aload_n 0, 1) := by decide +kernel
theorem dX4_addGrade_65 : decode cX4_addGrade 65 = .ok (.dup, 1) := by decide +kernel
theorem dX4_addGrade_66 : decode cX4_addGrade 66 = .ok (.getfield 70, 3) := by decide +kernel
theorem dX4_addGrade_69 : decode cX4_addGrade 69 = .ok (.iconst 1, 1) := by decide +kernel
theorem dX4_addGrade_70 : decode cX4_addGrade 70 = .ok (.iadd, 1) := by decide +kernel
theorem dX4_addGrade_71 : decode cX4_addGrade 71 = .ok (.putfield 70, 3) := by decide +kernel
theorem dX4_addGrade_74 : decode cX4_addGrade 74 = .ok (.iload_n 2, 1) := by decide +kernel
theorem dX4_addGrade_75 : decode cX4_addGrade 75 = .ok (.ireturn, 1) := by decide +kernel
set_option maxRecDepth 20000 in
theorem ggX4_setWidth_X4_isWithin : GoodIn wsX4_setWidth wsX4_isWithin := goodIn_r _ [10] (by decide +kernel) (by decide +kernel)
set_option maxRecDepth 20000 in
theorem gX4_setWidth_X4_isWithin : GoodIn wsX4_setWidth (va_wsS RX4 55 yX4_isWithin wsX4_isWithin) := goodIn_app (goodIn_of _ (by decide +kernel)) ggX4_setWidth_X4_isWithin
set_option maxRecDepth 20000 in
theorem ggX4_setWidth_X3_widestOpen : GoodIn wsX4_setWidth wsX3_widestOpen := goodIn_ca (goodIn_r _ [15, 16, 17, 18, 19, 20, 21, 22, 36, 37, 38, 39, 40] (by decide +kernel) (by decide +kernel)) (goodIn_sub (fun _ h => List.mem_cons_of_mem _ (List.mem_append_right _ h)) (by decide +kernel))
set_option maxRecDepth 20000 in
theorem gX4_setWidth_X3_widestOpen : GoodIn wsX4_setWidth (wsV RX4 80 RX3 yX3_widestOpen wsX3_widestOpen) := goodIn_app (goodIn_of _ (by decide +kernel)) ggX4_setWidth_X3_widestOpen
theorem dX4_setWidth_0 : decode cX4_setWidth 0 = .ok (.iload_n 1, 1) := by decide +kernel
theorem dX4_setWidth_1 : decode cX4_setWidth 1 = .ok (.sipush 200, 3) := by decide +kernel
theorem dX4_setWidth_4 : decode cX4_setWidth 4 = .ok (.sipush 800, 3) := by decide +kernel
theorem dX4_setWidth_7 : decode cX4_setWidth 7 = .ok (.invokestatic 55, 3) := by decide +kernel
theorem dX4_setWidth_10 : decode cX4_setWidth 10 = .ok (.ifCond .ne 13, 3) := by decide +kernel
theorem dX4_setWidth_13 : decode cX4_setWidth 13 = .ok (.new 63, 3) := by decide +kernel
