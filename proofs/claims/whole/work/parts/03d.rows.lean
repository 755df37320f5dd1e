theorem dX5_order_66 : decode cX5_order 66 = .ok (.aload_n 0, 1) := by decide +kernel
theorem dX5_order_67 : decode cX5_order 67 = .ok (.iload 4, 2) := by decide +kernel
theorem dX5_order_69 : decode cX5_order 69 = .ok (.invokevirtual 75, 3) := by decide +kernel
theorem dX5_order_72 : decode cX5_order 72 = .ok (.ifCond .ne 5, 3) := by decide +kernel
theorem dX5_order_75 : decode cX5_order 75 = .ok (.iconst 0, 1) := by decide +kernel
theorem dX5_order_76 : decode cX5_order 76 = .ok (.ireturn, 1) := by decide +kernel
theorem dX5_order_77 : decode cX5_order 77 = .ok (.aload_n 0, 1) := by decide +kernel
theorem dX5_order_78 : decode cX5_order 78 = .ok (.getfield 24, 3) := by decide +kernel
theorem dX5_order_81 : decode cX5_order 81 = .ok (.aload_n 0, 1) := by decide +kernel
theorem dX5_order_82 : decode cX5_order 82 = .ok (.getfield 68, 3) := by decide +kernel
theorem dX5_order_85 : decode cX5_order 85 = .ok (.iload_n 1, 1) := by decide +kernel
theorem dX5_order_86 : decode cX5_order 86 = .ok (.iastore, 1) := by decide +kernel
theorem dX5_order_87 : decode cX5_order 87 = .ok (.aload_n 0, 1) := by decide +kernel
theorem dX5_order_88 : decode cX5_order 88 = .ok (.getfield 27, 3) := by decide +kernel
theorem dX5_order_91 : decode cX5_order 91 = .ok (.aload_n 0, 1) := by decide +kernel
theorem dX5_order_92 : decode cX5_order 92 = .ok (.getfield 68, 3) := by decide +kernel
theorem dX5_order_95 : decode cX5_order 95 = .ok (.iload_n 2, 1) := by decide +kernel
theorem dX5_order_96 : decode cX5_order 96 = .ok (.iastore, 1) := by decide +kernel
theorem dX5_order_97 : decode cX5_order 97 = .ok (.aload_n 0, 1) := by decide +kernel
theorem dX5_order_98 : decode cX5_order 98 = .ok (.getfield 30, 3) := by decide +kernel
theorem dX5_order_101 : decode cX5_order 101 = .ok (.aload_n 0, 1) := by decide +kernel
theorem dX5_order_102 : decode cX5_order 102 = .ok (.getfield 68, 3) := by decide +kernel
theorem dX5_order_105 : decode cX5_order 105 = .ok (.iload_n 3, 1) := by decide +kernel
theorem dX5_order_106 : decode cX5_order 106 = .ok (.iastore, 1) := by decide +kernel
theorem dX5_order_107 : decode cX5_order 107 = .ok (.aload_n 0, 1) := by decide +kernel
theorem dX5_order_108 : decode cX5_order 108 = .ok (.dup, 1) := by decide +kernel
theorem dX5_order_109 : decode cX5_order 109 = .ok (.getfield 68, 3) := by decide +kernel
theorem dX5_order_112 : decode cX5_order 112 = .ok (.iconst 1, 1) := by decide +kernel
theorem dX5_order_113 : decode cX5_order 113 = .ok (.iadd, 1) := by decide +kernel
theorem dX5_order_114 : decode cX5_order 114 = .ok (.putfield 68, 3) := by decide +kernel
theorem dX5_order_117 : decode cX5_order 117 = .ok (.aload_n 0, 1) := by decide +kernel
theorem dX5_order_118 : decode cX5_order 118 = .ok (.getfield 68, 3) := by decide +kernel
theorem dX5_order_121 : decode cX5_order 121 = .ok (.iconst 1, 1) := by decide +kernel
theorem dX5_order_122 : decode cX5_order 122 = .ok (.isub, 1) := by decide +kernel
theorem dX5_order_123 : decode cX5_order 123 = .ok (.ireturn, 1) := by decide +kernel
set_option maxRecDepth 20000 in
theorem ggX5_cancel_X5_isOrder : GoodIn wsX5_cancel wsX5_isOrder := goodIn_r _ [6, 7, 8, 9, 5, 10, 16, 17, 18, 19, 20, 21, 22, 23, 24, 25, 26, 27, 28, 29, 30, 31, 32, 33, 34, 35, 36, 37, 38, 39, 40, 41, 42, 43, 44] (by decide +kernel) (by decide +kernel)
set_option maxRecDepth 20000 in
theorem gX5_cancel_X5_isOrder : GoodIn wsX5_cancel (wsV RX5 95 RX5 yX5_isOrder wsX5_isOrder) := goodIn_app (goodIn_of _ (by decide +kernel)) ggX5_cancel_X5_isOrder
set_option maxRecDepth 20000 in
theorem ggX5_cancel_X5_goesOn : GoodIn wsX5_cancel wsX5_goesOn := goodIn_r _ [14, 15, 16, 17, 18, 19, 20, 21, 22, 23, 24, 25, 26, 27, 28, 29, 30, 31, 32, 33, 34, 35, 36, 37, 38, 39, 40, 41, 42, 43, 44] (by decide +kernel) (by decide +kernel)
set_option maxRecDepth 20000 in
theorem gX5_cancel_X5_goesOn : GoodIn wsX5_cancel (wsV RX5 75 RX5 yX5_goesOn wsX5_goesOn) := goodIn_app (goodIn_of _ (by decide +kernel)) ggX5_cancel_X5_goesOn
theorem dX5_cancel_0 : decode cX5_cancel 0 = .ok (.aload_n 0, 1) := by decide +kernel
theorem dX5_cancel_1 : decode cX5_cancel 1 = .ok (.aload_n 0, 1) := by decide +kernel
theorem dX5_cancel_2 : decode cX5_cancel 2 = .ok (.iload_n 1, 1) := by decide +kernel
theorem dX5_cancel_3 : decode cX5_cancel 3 = .ok (.invokevirtual 95, 3) := by decide +kernel
theorem dX5_cancel_6 : decode cX5_cancel 6 = .ok (.ifCond .ne 7, 3) := by decide +kernel
theorem dX5_cancel_9 : decode cX5_cancel 9 = .ok (.iconst 1, 1) := by decide +kernel
theorem dX5_cancel_10 : decode cX5_cancel 10 = .ok (.goto 17, 3) := by decide +kernel
theorem dX5_cancel_13 : decode cX5_cancel 13 = .ok (.aload_n 0, 1) := by decide +kernel
theorem dX5_cancel_14 : decode cX5_cancel 14 = .ok (.getfield 30, 3) := by decide +kernel
theorem dX5_cancel_17 : decode cX5_cancel 17 = .ok (.iload_n 1, 1) := by decide +kernel
theorem dX5_cancel_18 : decode cX5_cancel 18 = .ok (.iaload, 1) := by decide +kernel
theorem dX5_cancel_19 : decode cX5_cancel 19 = .ok (.ifCond .ne 7, 3) := by decide +kernel
theorem dX5_cancel_22 : decode cX5_cancel 22 = .ok (.iconst 2, 1) := by decide +kernel
theorem dX5_cancel_23 : decode cX5_cancel 23 = .ok (.goto 4, 3) := by decide +kernel
theorem dX5_cancel_26 : decode cX5_cancel 26 = .ok (.iconst 0, 1) := by decide +kernel
theorem dX5_cancel_27 : decode cX5_cancel 27 = .ok (.invokevirtual 75, 3) := by decide +kernel
theorem dX5_cancel_30 : decode cX5_cancel 30 = .ok (.ifCond .ne 5, 3) := by decide +kernel
theorem dX5_cancel_33 : decode cX5_cancel 33 = .ok (.iconst 0, 1) := by decide +kernel
theorem dX5_cancel_34 : decode cX5_cancel 34 = .ok (.ireturn, 1) := by decide +kernel
theorem dX5_cancel_35 : decode cX5_cancel 35 = .ok (.aload_n 0, 1) := by decide +kernel
theorem dX5_cancel_36 : decode cX5_cancel 36 = .ok (.getfield 30, 3) := by decide +kernel
theorem dX5_cancel_39 : decode cX5_cancel 39 = .ok (.iload_n 1, 1) := by decide +kernel
theorem dX5_cancel_40 : decode cX5_cancel 40 = .ok (.iaload, 1) := by decide +kernel
theorem dX5_cancel_41 : decode cX5_cancel 41 = .ok (.istore_n 2, 1) := by decide +kernel
theorem dX5_cancel_42 : decode cX5_cancel 42 = .ok (.aload_n 0, 1) := by decide +kernel
theorem dX5_cancel_43 : decode cX5_cancel 43 = .ok (.getfield 30, 3) := by decide +kernel
theorem dX5_cancel_46 : decode cX5_cancel 46 = .ok (.iload_n 1, 1) := by decide +kernel
theorem dX5_cancel_47 : decode cX5_cancel 47 = .ok (.iconst 0, 1) := by decide +kernel
theorem dX5_cancel_48 : decode cX5_cancel 48 = .ok (.iastore, 1) := by decide +kernel
theorem dX5_cancel_49 : decode cX5_cancel 49 = .ok (.iload_n 2, 1) := by decide +kernel
theorem dX5_cancel_50 : decode cX5_cancel 50 = .ok (.ireturn, 1) := by decide +kernel
set_option maxRecDepth 20000 in
theorem ggX5_cut_X5_isOrder : GoodIn wsX5_cut wsX5_isOrder := goodIn_r _ [6, 7, 8, 9, 5, 10, 16, 17, 18, 19, 20, 21, 22, 23, 24, 25, 26, 27, 28, 29, 30, 31, 32, 33, 34, 35, 36, 37, 38, 39, 40, 41, 42, 43, 44] (by decide +kernel) (by decide +kernel)
set_option maxRecDepth 20000 in
theorem gX5_cut_X5_isOrder : GoodIn wsX5_cut (wsV RX5 95 RX5 yX5_isOrder wsX5_isOrder) := goodIn_app (goodIn_of _ (by decide +kernel)) ggX5_cut_X5_isOrder
set_option maxRecDepth 20000 in
theorem ggX5_cut_X5_goesOn : GoodIn wsX5_cut wsX5_goesOn := goodIn_r _ [14, 15, 16, 17, 18, 19, 20, 21, 22, 23, 24, 25, 26, 27, 28, 29, 30, 31, 32, 33, 34, 35, 36, 37, 38, 39, 40, 41, 42, 43, 44] (by decide +kernel) (by decide +kernel)
set_option maxRecDepth 20000 in
theorem gX5_cut_X5_goesOn : GoodIn wsX5_cut (wsV RX5 75 RX5 yX5_goesOn wsX5_goesOn) := goodIn_app (goodIn_of _ (by decide +kernel)) ggX5_cut_X5_goesOn
theorem dX5_cut_0 : decode cX5_cut 0 = .ok (.aload_n 0, 1) := by decide +kernel
theorem dX5_cut_1 : decode cX5_cut 1 = .ok (.aload_n 0, 1) := by decide +kernel
theorem dX5_cut_2 : decode cX5_cut 2 = .ok (.iload_n 1, 1) := by decide +kernel
theorem dX5_cut_3 : decode cX5_cut 3 = .ok (.invokevirtual 95, 3) := by decide +kernel
theorem dX5_cut_6 : decode cX5_cut 6 = .ok (.ifCond .eq 7, 3) := by decide +kernel
theorem dX5_cut_9 : decode cX5_cut 9 = .ok (.iconst 0, 1) := by decide +kernel
theorem dX5_cut_10 : decode cX5_cut 10 = .ok (.goto 4, 3) := by decide +kernel
theorem dX5_cut_13 : decode cX5_cut 13 = .ok (.iconst 1, 1) := by decide +kernel
theorem dX5_cut_14 : decode cX5_cut 14 = .ok (.invokevirtual 75, 3) := by decide +kernel
theorem dX5_cut_17 : decode cX5_cut 17 = .ok (.ifCond .eq 12, 3) := by decide +kernel
theorem dX5_cut_20 : decode cX5_cut 20 = .ok (.aload_n 0, 1) := by decide +kernel
theorem dX5_cut_21 : decode cX5_cut 21 = .ok (.getfield 33, 3) := by decide +kernel
theorem dX5_cut_24 : decode cX5_cut 24 = .ok (.iload_n 1, 1) := by decide +kernel
theorem dX5_cut_25 : decode cX5_cut 25 = .ok (.iaload, 1) := by decide +kernel
theorem dX5_cut_26 : decode cX5_cut 26 = .ok (.goto 4, 3) := by decide +kernel
theorem dX5_cut_29 : decode cX5_cut 29 = .ok (.iconst 0, 1) := by decide +kernel
theorem dX5_cut_30 : decode cX5_cut 30 = .ok (.ireturn, 1) := by decide +kernel
set_option maxRecDepth 20000 in
theorem ggX5_lacks_X5_isOrder : GoodIn wsX5_lacks wsX5_isOrder := goodIn_r _ [6, 7, 8, 9, 5, 10, 16, 17, 18, 19, 20, 21, 22, 23, 24, 25, 26, 27, 28, 29, 30, 31, 32, 33, 34, 35, 36, 37, 38, 39, 40, 41, 42, 43, 44] (by decide +kernel) (by decide +kernel)
set_option maxRecDepth 20000 in
theorem gX5_lacks_X5_isOrder : GoodIn wsX5_lacks (wsV RX5 95 RX5 yX5_isOrder wsX5_isOrder) := goodIn_app (goodIn_of _ (by decide +kernel)) ggX5_lacks_X5_isOrder
set_option maxRecDepth 20000 in
theorem ggX5_lacks_X5_goesOn : GoodIn wsX5_lacks wsX5_goesOn := goodIn_r _ [14, 15, 16, 17, 18, 19, 20, 21, 22, 23, 24, 25, 26, 27, 28, 29, 30, 31, 32, 33, 34, 35, 36, 37, 38, 39, 40, 41, 42, 43, 44] (by decide +kernel) (by decide +kernel)
set_option maxRecDepth 20000 in
theorem gX5_lacks_X5_goesOn : GoodIn wsX5_lacks (wsV RX5 75 RX5 yX5_goesOn wsX5_goesOn) := goodIn_app (goodIn_of _ (by decide +kernel)) ggX5_lacks_X5_goesOn
theorem dX5_lacks_0 : decode cX5_lacks 0 = .ok (.aload_n 0, 1) := by decide +kernel
theorem dX5_lacks_1 : decode cX5_lacks 1 = .ok (.aload_n 0, 1) := by decide +kernel
theorem dX5_lacks_2 : decode cX5_lacks 2 = .ok (.iload_n 1, 1) := by decide +kernel
theorem dX5_lacks_3 : decode cX5_lacks 3 = .ok (.invokevirtual 95, 3) := by decide +kernel
theorem dX5_lacks_6 : decode cX5_lacks 6 = .ok (.ifCond .eq 7, 3) := by decide +kernel
theorem dX5_lacks_9 : decode cX5_lacks 9 = .ok (.iconst 0, 1) := by decide +kernel
theorem dX5_lacks_10 : decode cX5_lacks 10 = .ok (.goto 4, 3) := by decide +kernel
theorem dX5_lacks_13 : decode cX5_lacks 13 = .ok (.iconst 1, 1) := by decide +kernel
theorem dX5_lacks_14 : decode cX5_lacks 14 = .ok (.invokevirtual 75, 3) := by decide +kernel
theorem dX5_lacks_17 : decode cX5_lacks 17 = .ok (.ifCond .eq 12, 3) := by decide +kernel
theorem dX5_lacks_20 : decode cX5_lacks 20 = .ok (.aload_n 0, 1) := by decide +kernel
theorem dX5_lacks_21 : decode cX5_lacks 21 = .ok (.getfield 30, 3) := by decide +kernel
theorem dX5_lacks_24 : decode cX5_lacks 24 = .ok (.iload_n 1, 1) := by decide +kernel
theorem dX5_lacks_25 : decode cX5_lacks 25 = .ok (.iaload, 1) := by decide +kernel
theorem dX5_lacks_26 : decode cX5_lacks 26 = .ok (.goto 4, 3) := by decide +kernel
theorem dX5_lacks_29 : decode cX5_lacks 29 = .ok (.iconst 0, 1) := by decide +kernel
theorem dX5_lacks_30 : decode cX5_lacks 30 = .ok (.ireturn, 1) := by decide +kernel
set_option maxRecDepth 20000 in
theorem ggX5_tries_X5_tries : GoodIn wsX5_tries wsX5_tries := goodIn_ca (goodIn_ca (goodIn_r _ [0, 1, 2, 3, 4, 5, 6, 7, 8, 9, 10, 11, 12, 13, 14, 15, 16, 17, 18, 19, 20, 21, 22, 23, 24, 25, 26, 27, 28, 29, 30, 31, 32, 33, 34, 35, 36, 37, 38, 39, 40, 41] (by decide +kernel) (by decide +kernel)) (goodIn_sub (fun _ h => List.mem_cons_of_mem _ (List.mem_append_left _ (List.mem_append_right _ h))) (by decide +kernel))) (goodIn_sub (fun _ h => List.mem_cons_of_mem _ (List.mem_append_right _ h)) (by decide +kernel))
set_option maxRecDepth 20000 in
theorem gX5_tries_X5_tries : GoodIn wsX5_tries (wsV RX5 101 RX5 yX5_tries wsX5_tries) := goodIn_app (goodIn_of _ (by decide +kernel)) ggX5_tries_X5_tries
theorem dX5_tries_0 : decode cX5_tries 0 = .ok (.iload_n 2, 1) := by decide +kernel
theorem dX5_tries_1 : decode cX5_tries 1 = .ok (.aload_n 0, 1) := by decide +kernel
theorem dX5_tries_2 : decode cX5_tries 2 = .ok (.getfield 68, 3) := by decide +kernel
theorem dX5_tries_5 : decode cX5_tries 5 = .ok (.if_icmp .ne 51, 3) := by decide +kernel
theorem dX5_tries_8 : decode cX5_tries 8 = .ok (.iload 4, 2) := by decide +kernel
theorem dX5_tries_10 : decode cX5_tries 10 = .ok (.aload_n 0, 1) := by decide +kernel
theorem dX5_tries_11 : decode cX5_tries 11 = .ok (.getfield 98, 3) := by decide +kernel
theorem dX5_tries_14 : decode cX5_tries 14 = .ok (.if_icmp .le 41, 3) := by decide +kernel
theorem dX5_tries_17 : decode cX5_tries 17 = .ok (.aload_n 0, 1) := by decide +kernel
theorem dX5_tries_18 : decode cX5_tries 18 = .ok (.iload 4, 2) := by decide +kernel
theorem dX5_tries_20 : decode cX5_tries 20 = .ok (.putfield 98, 3) := by decide +kernel
theorem dX5_tries_23 : decode cX5_tries 23 = .ok (.iconst 0, 1) := by decide +kernel
theorem dX5_tries_24 : decode cX5_tries 24 = .ok (.istore 5, 2) := by decide +kernel
theorem dX5_tries_26 : decode cX5_tries 26 = .ok (.iload 5, 2) := by decide +kernel
theorem dX5_tries_28 : decode cX5_tries 28 = .ok (.aload_n 0, 1) := by decide +kernel
theorem dX5_tries_29 : decode cX5_tries 29 = .ok (.getfield 68, 3) := by decide +kernel
theorem dX5_tries_32 : decode cX5_tries 32 = .ok (.if_icmp .ge 23, 3) := by decide +kernel
theorem dX5_tries_35 : decode cX5_tries 35 = .ok (.aload_n 0, 1) := by decide +kernel
theorem dX5_tries_36 : decode cX5_tries 36 = .ok (.getfield 55, 3) := by decide +kernel
theorem dX5_tries_39 : decode cX5_tries 39 = .ok (.iload 5, 2) := by decide +kernel
theorem dX5_tries_41 : decode cX5_tries 41 = .ok (.aload_n 0, 1) := by decide +kernel
theorem dX5_tries_42 : decode cX5_tries 42 = .ok (.getfield 52, 3) := by decide +kernel
theorem dX5_tries_45 : decode cX5_tries 45 = .ok (.iload 5, 2) := by decide +kernel
theorem dX5_tries_47 : decode cX5_tries 47 = .ok (.iaload, 1) := by decide +kernel
theorem dX5_tries_48 : decode cX5_tries 48 = .ok (.iastore, 1) := by decide +kernel
theorem dX5_tries_49 : decode cX5_tries 49 = .ok (.iinc 5 1, 3) := by decide +kernel
theorem dX5_tries_52 : decode cX5_tries 52 = .ok (.goto (-26), 3) := by decide +kernel
theorem dX5_tries_55 : decode cX5_tries 55 = .ok (.return_, 1) := by decide +kernel
theorem dX5_tries_56 : decode cX5_tries 56 = .ok (.aload_n 0, 1) := by decide +kernel
theorem dX5_tries_57 : decode cX5_tries 57 = .ok (.getfield 24, 3) := by decide +kernel
theorem dX5_tries_60 : decode cX5_tries 60 = .ok (.iload_n 2, 1) := by decide +kernel
theorem dX5_tries_61 : decode cX5_tries 61 = .ok (.iaload, 1) := by decide +kernel
theorem dX5_tries_62 : decode cX5_tries 62 = .ok (.iload_n 1, 1) := by decide +kernel
theorem dX5_tries_63 : decode cX5_tries 63 = .ok (.if_icmp .ne 12, 3) := by decide +kernel
theorem dX5_tries_66 : decode cX5_tries 66 = .ok (.aload_n 0, 1) := by decide +kernel
theorem dX5_tries_67 : decode cX5_tries 67 = .ok (.getfield 30, 3) := by decide +kernel
theorem dX5_tries_70 : decode cX5_tries 70 = .ok (.iload_n 2, 1) := by decide +kernel
theorem dX5_tries_71 : decode cX5_tries 71 = .ok (.iaload, 1) := by decide +kernel
theorem dX5_tries_72 : decode cX5_tries 72 = .ok (.goto 4, 3) := by decide +kernel
theorem dX5_tries_75 : decode cX5_tries 75 = .ok (.iconst 0, 1) := by decide +kernel
theorem dX5_tries_76 : decode cX5_tries 76 = .ok (.istore 5, 2) := by decide +kernel
theorem dX5_tries_78 : decode cX5_tries 78 = .ok (.iload 5, 2) := by decide +kernel
theorem dX5_tries_80 : decode cX5_tries 80 = .ok (.bipush 6, 2) := by decide +kernel
theorem dX5_tries_82 : decode cX5_tries 82 = .ok (.iload_n 3, 1) := by decide +kernel
theorem dX5_tries_83 : decode cX5_tries 83 = .ok (.isub, 1) := by decide +kernel
theorem dX5_tries_84 : decode cX5_tries 84 = .ok (.if_icmp .ge 8, 3) := by decide +kernel
theorem dX5_tries_87 : decode cX5_tries 87 = .ok (.iload 5, 2) := by decide +kernel
theorem dX5_tries_89 : decode cX5_tries 89 = .ok (.goto 7, 3) := by decide +kernel
theorem dX5_tries_92 : decode cX5_tries 92 = .ok (.bipush 6, 2) := by decide +kernel
theorem dX5_tries_94 : decode cX5_tries 94 = .ok (.iload_n 3, 1) := by decide +kernel
theorem dX5_tries_95 : decode cX5_tries 95 = .ok (.isub, 1) := by decide +kernel
theorem dX5_tries_96 : decode cX5_tries 96 = .ok (.istore 5, 2) := by decide +kernel
theorem dX5_tries_98 : decode cX5_tries 98 = .ok (.iload 5, 2) := by decide +kernel
theorem dX5_tries_100 : decode cX5_tries 100 = .ok (.aload_n 0, 1) := by decide +kernel
theorem dX5_tries_101 : decode cX5_tries 101 = .ok (.getfield 13, 3) := by decide +kernel
theorem dX5_tries_104 : decode cX5_tries 104 = .ok (.iload 4, 2) := by decide +kernel
theorem dX5_tries_106 : decode cX5_tries 106 = .ok (.isub, 1) := by decide +kernel
theorem dX5_tries_107 : decode cX5_tries 107 = .ok (.aload_n 0, 1) := by decide +kernel
theorem dX5_tries_108 : decode cX5_tries 108 = .ok (.getfield 27, 3) := by decide +kernel
theorem dX5_tries_111 : decode cX5_tries 111 = .ok (.iload_n 2, 1) := by decide +kernel
theorem dX5_tries_112 : decode cX5_tries 112 = .ok (.iaload, 1) := by decide +kernel
theorem dX5_tries_113 : decode cX5_tries 113 = .ok (.idiv, 1) := by decide +kernel
theorem dX5_tries_114 : decode cX5_tries 114 = .ok (.if_icmp .ge 8, 3) := by decide +kernel
theorem dX5_tries_117 : decode cX5_tries 117 = .ok (.iload 5, 2) := by decide +kernel
theorem dX5_tries_119 : decode cX5_tries 119 = .ok (.goto 17, 3) := by decide +kernel
theorem dX5_tries_122 : decode cX5_tries 122 = .ok (.aload_n 0, 1) := by decide +kernel
theorem dX5_tries_123 : decode cX5_tries 123 = .ok (.getfield 13, 3) := by decide +kernel
theorem dX5_tries_126 : decode cX5_tries 126 = .ok (.iload 4, 2) := by decide +kernel
theorem dX5_tries_128 : decode cX5_tries 128 = .ok (.isub, 1) := by decide +kernel
theorem dX5_tries_129 : decode cX5_tries 129 = .ok (.aload_n 0, 1) := by decide +kernel
theorem dX5_tries_130 : decode cX5_tries 130 = .ok (.getfield 27, 3) := by decide +kernel
theorem dX5_tries_133 : decode cX5_tries 133 = .ok (.iload_n 2, 1) := by decide +kernel
theorem dX5_tries_134 : decode cX5_tries 134 = .ok (.iaload, 1) := by decide +kernel
theorem dX5_tries_135 : decode cX5_tries 135 = .ok (.idiv, 1) := by decide +kernel
theorem dX5_tries_136 : decode cX5_tries 136 = .ok (.istore 5, 2) := by decide +kernel
theorem dX5_tries_138 : decode cX5_tries 138 = .ok (.iload 5, 2) := by decide +kernel
theorem dX5_tries_140 : decode cX5_tries 140 = .ok (.istore 6, 2) := by decide +kernel
theorem dX5_tries_142 : decode cX5_tries 142 = .ok (.iload 6, 2) := by decide +kernel
theorem dX5_tries_144 : decode cX5_tries 144 = .ok (.ifCond .lt 41, 3) := by decide +kernel
theorem dX5_tries_147 : decode cX5_tries 147 = .ok (.aload_n 0, 1) := by decide +kernel
theorem dX5_tries_148 : decode cX5_tries 148 = .ok (.getfield 52, 3) := by decide +kernel
theorem dX5_tries_151 : decode cX5_tries 151 = .ok (.iload_n 2, 1) := by decide +kernel
theorem dX5_tries_152 : decode cX5_tries 152 = .ok (.iload 6, 2) := by decide +kernel
theorem dX5_tries_154 : decode cX5_tries 154 = .ok (.iastore, 1) := by decide +kernel
theorem dX5_tries_155 : decode cX5_tries 155 = .ok (.aload_n 0, 1) := by decide +kernel
theorem dX5_tries_156 : decode cX5_tries 156 = .ok (.iload_n 1, 1) := by decide +kernel
theorem dX5_tries_157 : decode cX5_tries 157 = .ok (.iload_n 2, 1) := by decide +kernel
theorem dX5_tries_158 : decode cX5_tries 158 = .ok (.iconst 1, 1) := by decide +kernel
theorem dX5_tries_159 : decode cX5_tries 159 = .ok (.iadd, 1) := by decide +kernel
theorem dX5_tries_160 : decode cX5_tries 160 = .ok (.iload_n 3, 1) := by decide +kernel
theorem dX5_tries_161 : decode cX5_tries 161 = .ok (.iload 6, 2) := by decide +kernel
theorem dX5_tries_163 : decode cX5_tries 163 = .ok (.iadd, 1) := by decide +kernel
theorem dX5_tries_164 : decode cX5_tries 164 = .ok (.iload 4, 2) := by decide +kernel
theorem dX5_tries_166 : decode cX5_tries 166 = .ok (.iload 6, 2) := by decide +kernel
theorem dX5_tries_168 : decode cX5_tries 168 = .ok (.aload_n 0, 1) := by decide +kernel
theorem dX5_tries_169 : decode cX5_tries 169 = .ok (.getfield 27, 3) := by decide +kernel
theorem dX5_tries_172 : decode cX5_tries 172 = .ok (.iload_n 2, 1) := by decide +kernel
theorem dX5_tries_173 : decode cX5_tries 173 = .ok (.iaload, 1) := by decide +kernel
theorem dX5_tries_174 : decode cX5_tries 174 = .ok (.imul, 1) := by decide +kernel
theorem dX5_tries_175 : decode cX5_tries 175 = .ok (.iadd, 1) := by decide +kernel
theorem dX5_tries_176 : decode cX5_tries 176 = .ok (.invokevirtual 101, 3) := by decide +kernel
theorem dX5_tries_179 : decode cX5_tries 179 = .ok (.iinc 6 (-1), 3) := by decide +kernel
theorem dX5_tries_182 : decode cX5_tries 182 = .ok (.goto (-40), 3) := by decide +kernel
theorem dX5_tries_185 : decode cX5_tries 185 = .ok (.return_, 1) := by decide +kernel
set_option maxRecDepth 20000 in
theorem ggX5_looks_X5_tries : GoodIn wsX5_looks wsX5_tries := goodIn_ca (goodIn_ca (goodIn_r _ [6, 7, 1, 8, 9, 10, 11, 12, 13, 2, 3, 4, 5, 14, 15, 16, 17, 18, 19, 20, 21, 22, 23, 24, 25, 26, 27, 28, 29, 30, 31, 32, 33, 34, 35, 36, 37, 38, 39, 40, 41, 42] (by decide +kernel) (by decide +kernel)) (goodIn_sub (fun _ h => List.mem_cons_of_mem _ (List.mem_append_left _ (List.mem_append_right _ h))) (by decide +kernel))) (goodIn_sub (fun _ h => List.mem_cons_of_mem _ (List.mem_append_right _ h)) (by decide +kernel))
set_option maxRecDepth 20000 in
theorem gX5_looks_X5_tries : GoodIn wsX5_looks (wsV RX5 101 RX5 yX5_tries wsX5_tries) := goodIn_app (goodIn_of _ (by decide +kernel)) ggX5_looks_X5_tries
theorem dX5_looks_0 : decode cX5_looks 0 = .ok (.aload_n 0, 1) := by decide +kernel
theorem dX5_looks_1 : decode cX5_looks 1 = .ok (.iconst (-1), 1) := by decide +kernel
theorem dX5_looks_2 : decode cX5_looks 2 = .ok (.putfield 98, 3) := by decide +kernel
theorem dX5_looks_5 : decode cX5_looks 5 = .ok (.aload_n 0, 1) := by decide +kernel
theorem dX5_looks_6 : decode cX5_looks 6 = .ok (.iload_n 1, 1) := by decide +kernel
theorem dX5_looks_7 : decode cX5_looks 7 = .ok (.iconst 0, 1) := by decide +kernel
theorem dX5_looks_8 : decode cX5_looks 8 = .ok (.iconst 0, 1) := by decide +kernel
theorem dX5_looks_9 : decode cX5_looks 9 = .ok (.iconst 0, 1) := by decide +kernel
theorem dX5_looks_10 : decode cX5_looks 10 = .ok (.invokevirtual 101, 3) := by decide +kernel
theorem dX5_looks_13 : decode cX5_looks 13 = .ok (.aload_n 0, 1) := by decide +kernel
theorem dX5_looks_14 : decode cX5_looks 14 = .ok (.getfield 98, 3) := by decide +kernel
theorem dX5_looks_17 : decode cX5_looks 17 = .ok (.ireturn, 1) := by decide +kernel
set_option maxRecDepth 20000 in
theorem ggX5_trim_X5_isGrade : GoodIn wsX5_trim wsX5_isGrade := goodIn_r _ [6, 7, 8, 9, 5, 10, 31, 32, 33, 34, 35, 36, 37, 38, 39, 40, 41, 42, 43, 44, 45, 46, 47, 48, 49, 50, 51, 52, 53, 54, 55, 56, 57, 58, 59] (by decide +kernel) (by decide +kernel)
set_option maxRecDepth 20000 in
theorem gX5_trim_X5_isGrade : GoodIn wsX5_trim (wsV RX5 78 RX5 yX5_isGrade wsX5_isGrade) := goodIn_app (goodIn_of _ (by decide +kernel)) ggX5_trim_X5_isGrade
set_option maxRecDepth 20000 in
theorem ggX5_trim_X5_goesOn : GoodIn wsX5_trim wsX5_goesOn := goodIn_r _ [14, 15, 31, 32, 33, 34, 35, 36, 37, 38, 39, 40, 41, 42, 43, 44, 45, 46, 47, 48, 49, 50, 51, 52, 53, 54, 55, 56, 57, 58, 59] (by decide +kernel) (by decide +kernel)
set_option maxRecDepth 20000 in
theorem gX5_trim_X5_goesOn : GoodIn wsX5_trim (wsV RX5 75 RX5 yX5_goesOn wsX5_goesOn) := goodIn_app (goodIn_of _ (by decide +kernel)) ggX5_trim_X5_goesOn
set_option maxRecDepth 20000 in
theorem ggX5_trim_X5_looks : GoodIn wsX5_trim wsX5_looks := goodIn_ca (goodIn_ca (goodIn_r _ [19, 20, 21, 22, 23, 5, 24, 25, 26, 27, 28, 29, 1, 30, 31, 32, 33, 34, 35, 36, 37, 38, 39, 40, 41, 42, 43, 44, 45, 46, 47, 48, 49, 50, 51, 52, 53, 54, 55, 56, 57, 58, 59] (by decide +kernel) (by decide +kernel)) (goodIn_sub (fun _ h => List.mem_cons_of_mem _ (List.mem_append_left _ (List.mem_append_right _ h))) (by decide +kernel))) (goodIn_sub (fun _ h => List.mem_cons_of_mem _ (List.mem_append_right _ h)) (by decide +kernel))
set_option maxRecDepth 20000 in
theorem gX5_trim_X5_looks : GoodIn wsX5_trim (wsV RX5 105 RX5 yX5_looks wsX5_looks) := goodIn_app (goodIn_of _ (by decide +kernel)) ggX5_trim_X5_looks
theorem dX5_trim_0 : decode cX5_trim 0 = .ok (.aload_n 0, 1) := by decide +kernel
theorem dX5_trim_1 : decode cX5_trim 1 = .ok (.aload_n 0, 1) := by decide +kernel
theorem dX5_trim_2 : decode cX5_trim 2 = .ok (.iload_n 1, 1) := by decide +kernel
theorem dX5_trim_3 : decode cX5_trim 3 = .ok (.invokevirtual 78, 3) := by decide +kernel
theorem dX5_trim_6 : decode cX5_trim 6 = .ok (.ifCond .eq 7, 3) := by decide +kernel
theorem dX5_trim_9 : decode cX5_trim 9 = .ok (.iconst 0, 1) := by decide +kernel
theorem dX5_trim_10 : decode cX5_trim 10 = .ok (.goto 4, 3) := by decide +kernel
theorem dX5_trim_13 : decode cX5_trim 13 = .ok (.iconst 1, 1) := by decide +kernel
theorem dX5_trim_14 : decode cX5_trim 14 = .ok (.invokevirtual 75, 3) := by decide +kernel
theorem dX5_trim_17 : decode cX5_trim 17 = .ok (.ifCond .eq 16, 3) := by decide +kernel
theorem dX5_trim_20 : decode cX5_trim 20 = .ok (.aload_n 0, 1) := by decide +kernel
theorem dX5_trim_21 : decode cX5_trim 21 = .ok (.getfield 13, 3) := by decide +kernel
theorem dX5_trim_24 : decode cX5_trim 24 = .ok (.aload_n 0, 1) := by decide +kernel
theorem dX5_trim_25 : decode cX5_trim 25 = .ok (.iload_n 1, 1) := by decide +kernel
theorem dX5_trim_26 : decode cX5_trim 26 = .ok (.invokevirtual 105, 3) := by decide +kernel
theorem dX5_trim_29 : decode cX5_trim 29 = .ok (.isub, 1) := by decide +kernel
theorem dX5_trim_30 : decode cX5_trim 30 = .ok (.goto 4, 3) := by decide +kernel
theorem dX5_trim_33 : decode cX5_trim 33 = .ok (.iconst 0, 1) := by decide +kernel
theorem dX5_trim_34 : decode cX5_trim 34 = .ok (.ireturn, 1) := by decide +kernel
set_option maxRecDepth 20000 in
theorem ggX5_trimByTable_X5_trim : GoodIn wsX5_trimByTable wsX5_trim := goodIn_ca (goodIn_ca (goodIn_r _ [5, 6, 7, 8, 9, 4, 10, 11, 12, 13, 14, 15, 16, 17, 18, 19, 20, 21, 22, 23, 24, 25, 26, 27, 28, 29, 30, 31, 32, 33, 34, 35, 36, 37, 38, 39, 40, 41, 42, 43, 44, 45, 46, 47, 48, 49, 50, 51, 52, 53, 54, 55, 56, 57, 58, 59, 60, 61, 62, 63] (by decide +kernel) (by decide +kernel)) (goodIn_sub (fun _ h => List.mem_cons_of_mem _ (List.mem_append_left _ (List.mem_append_right _ h))) (by decide +kernel))) (goodIn_sub (fun _ h => List.mem_cons_of_mem _ (List.mem_append_right _ h)) (by decide +kernel))
set_option maxRecDepth 20000 in
theorem gX5_trimByTable_X5_trim : GoodIn wsX5_trimByTable (wsV RX5 108 RX5 yX5_trim wsX5_trim) := goodIn_app (goodIn_of _ (by decide +kernel)) ggX5_trimByTable_X5_trim
theorem dX5_trimByTable_0 : decode cX5_trimByTable 0 = .ok (.aload_n 0, 1) := by decide +kernel
theorem dX5_trimByTable_1 : decode cX5_trimByTable 1 = .ok (.iload_n 1, 1) := by decide +kernel
theorem dX5_trimByTable_2 : decode cX5_trimByTable 2 = .ok (.invokevirtual 108, 3) := by decide +kernel
theorem dX5_trimByTable_5 : decode cX5_trimByTable 5 = .ok (.ireturn, 1) := by decide +kernel
set_option maxRecDepth 20000 in
theorem ggX5_inCut_X5_isOrder : GoodIn wsX5_inCut wsX5_isOrder := goodIn_r _ [7, 8, 9, 10, 6, 11, 30, 31, 32, 33, 34, 35, 36, 37, 38, 39, 40, 41, 42, 43, 44, 45, 46, 47, 48, 49, 50, 51, 52, 53, 54, 55, 56, 57, 58] (by decide +kernel) (by decide +kernel)
set_option maxRecDepth 20000 in
theorem gX5_inCut_X5_isOrder : GoodIn wsX5_inCut (wsV RX5 95 RX5 yX5_isOrder wsX5_isOrder) := goodIn_app (goodIn_of _ (by decide +kernel)) ggX5_inCut_X5_isOrder
set_option maxRecDepth 20000 in
theorem ggX5_inCut_X5_goesOn : GoodIn wsX5_inCut wsX5_goesOn := goodIn_r _ [15, 16, 30, 31, 32, 33, 34, 35, 36, 37, 38, 39, 40, 41, 42, 43, 44, 45, 46, 47, 48, 49, 50, 51, 52, 53, 54, 55, 56, 57, 58] (by decide +kernel) (by decide +kernel)
set_option maxRecDepth 20000 in
theorem gX5_inCut_X5_goesOn : GoodIn wsX5_inCut (wsV RX5 75 RX5 yX5_goesOn wsX5_goesOn) := goodIn_app (goodIn_of _ (by decide +kernel)) ggX5_inCut_X5_goesOn
set_option maxRecDepth 20000 in
theorem ggX5_inCut_X5_looks : GoodIn wsX5_inCut wsX5_looks := goodIn_ca (goodIn_ca (goodIn_r _ [20, 21, 22, 23, 24, 6, 25, 8, 2, 26, 1, 27, 28, 29, 30, 31, 32, 33, 34, 35, 36, 37, 38, 39, 40, 41, 42, 43, 44, 45, 46, 47, 48, 49, 50, 51, 52, 53, 54, 55, 56, 57, 58] (by decide +kernel) (by decide +kernel)) (goodIn_sub (fun _ h => List.mem_cons_of_mem _ (List.mem_append_left _ (List.mem_append_right _ h))) (by decide +kernel))) (goodIn_sub (fun _ h => List.mem_cons_of_mem _ (List.mem_append_right _ h)) (by decide +kernel))
set_option maxRecDepth 20000 in
theorem gX5_inCut_X5_looks : GoodIn wsX5_inCut (wsV RX5 105 RX5 yX5_looks wsX5_looks) := goodIn_app (goodIn_of _ (by decide +kernel)) ggX5_inCut_X5_looks
theorem dX5_inCut_0 : decode cX5_inCut 0 = .ok (.aload_n 0, 1) := by decide +kernel
theorem dX5_inCut_1 : decode cX5_inCut 1 = .ok (.aload_n 0, 1) := by decide +kernel
theorem dX5_inCut_2 : decode cX5_inCut 2 = .ok (.iload_n 1, 1) := by decide +kernel
theorem dX5_inCut_3 : decode cX5_inCut 3 = .ok (.invokevirtual 95, 3) := by decide +kernel
theorem dX5_inCut_6 : decode cX5_inCut 6 = .ok (.ifCond .eq 7, 3) := by decide +kernel
theorem dX5_inCut_9 : decode cX5_inCut 9 = .ok (.iconst 0, 1) := by decide +kernel
theorem dX5_inCut_10 : decode cX5_inCut 10 = .ok (.goto 4, 3) := by decide +kernel
theorem dX5_inCut_13 : decode cX5_inCut 13 = .ok (.iconst 1, 1) := by decide +kernel
theorem dX5_inCut_14 : decode cX5_inCut 14 = .ok (.invokevirtual 75, 3) := by decide +kernel
theorem dX5_inCut_17 : decode cX5_inCut 17 = .ok (.ifCond .ne 5, 3) := by decide +kernel
theorem dX5_inCut_20 : decode cX5_inCut 20 = .ok (.iconst 0, 1) := by decide +kernel
theorem dX5_inCut_21 : decode cX5_inCut 21 = .ok (.ireturn, 1) := by decide +kernel
theorem dX5_inCut_22 : decode cX5_inCut 22 = .ok (.aload_n 0, 1) := by decide +kernel
theorem dX5_inCut_23 : decode cX5_inCut 23 = .ok (.aload_n 0, 1) := by decide +kernel
theorem dX5_inCut_24 : decode cX5_inCut 24 = .ok (.getfield 24, 3) := by decide +kernel
theorem dX5_inCut_27 : decode cX5_inCut 27 = .ok (.iload_n 1, 1) := by decide +kernel
theorem dX5_inCut_28 : decode cX5_inCut 28 = .ok (.iaload, 1) := by decide +kernel
theorem dX5_inCut_29 : decode cX5_inCut 29 = .ok (.invokevirtual 105, 3) := by decide +kernel
theorem dX5_inCut_32 : decode cX5_inCut 32 = .ok (.istore_n 2, 1) := by decide +kernel
theorem dX5_inCut_33 : decode cX5_inCut 33 = .ok (.aload_n 0, 1) := by decide +kernel
theorem dX5_inCut_34 : decode cX5_inCut 34 = .ok (.getfield 55, 3) := by decide +kernel
theorem dX5_inCut_37 : decode cX5_inCut 37 = .ok (.iload_n 1, 1) := by decide +kernel
theorem dX5_inCut_38 : decode cX5_inCut 38 = .ok (.iaload, 1) := by decide +kernel
theorem dX5_inCut_39 : decode cX5_inCut 39 = .ok (.ireturn, 1) := by decide +kernel
set_option maxRecDepth 20000 in
theorem ggX5_leastHours_X5_isGrade : GoodIn wsX5_leastHours wsX5_isGrade := goodIn_r _ [10, 11, 12, 13, 9, 14, 20, 21, 22, 23, 24, 25, 26, 27, 28, 29, 30, 31, 32, 33, 34, 35, 36, 37, 38, 39, 40, 41, 42, 43, 44, 45, 46, 47, 48] (by decide +kernel) (by decide +kernel)
set_option maxRecDepth 20000 in
theorem gX5_leastHours_X5_isGrade : GoodIn wsX5_leastHours (wsV RX5 78 RX5 yX5_isGrade wsX5_isGrade) := goodIn_app (goodIn_of _ (by decide +kernel)) ggX5_leastHours_X5_isGrade
set_option maxRecDepth 20000 in
theorem ggX5_leastHours_X5_goesOn : GoodIn wsX5_leastHours wsX5_goesOn := goodIn_r _ [18, 19, 20, 21, 22, 23, 24, 25, 26, 27, 28, 29, 30, 31, 32, 33, 34, 35, 36, 37, 38, 39, 40, 41, 42, 43, 44, 45, 46, 47, 48] (by decide +kernel) (by decide +kernel)
set_option maxRecDepth 20000 in
theorem gX5_leastHours_X5_goesOn : GoodIn wsX5_leastHours (wsV RX5 75 RX5 yX5_goesOn wsX5_goesOn) := goodIn_app (goodIn_of _ (by decide +kernel)) ggX5_leastHours_X5_goesOn
theorem dX5_leastHours_0 : decode cX5_leastHours 0 = .ok (.aload_n 0, 1) := by decide +kernel
theorem dX5_leastHours_1 : decode cX5_leastHours 1 = .ok (.aload_n 0, 1) := by decide +kernel
theorem dX5_leastHours_2 : decode cX5_leastHours 2 = .ok (.iload_n 1, 1) := by decide +kernel
theorem dX5_leastHours_3 : decode cX5_leastHours 3 = .ok (.invokevirtual 78, 3) := by decide +kernel
theorem dX5_leastHours_6 : decode cX5_leastHours 6 = .ok (.ifCond .eq 7, 3) := by decide +kernel
theorem dX5_leastHours_9 : decode cX5_leastHours 9 = .ok (.iconst 0, 1) := by decide +kernel
theorem dX5_leastHours_10 : decode cX5_leastHours 10 = .ok (.goto 4, 3) := by decide +kernel
theorem dX5_leastHours_13 : decode cX5_leastHours 13 = .ok (.iconst 1, 1) := by decide +kernel
theorem dX5_leastHours_14 : decode cX5_leastHours 14 = .ok (.invokevirtual 75, 3) := by decide +kernel
theorem dX5_leastHours_17 : decode cX5_leastHours 17 = .ok (.ifCond .ne 5, 3) := by decide +kernel
theorem dX5_leastHours_20 : decode cX5_leastHours 20 = .ok (.iconst 0, 1) := by decide +kernel
theorem dX5_leastHours_21 : decode cX5_leastHours 21 = .ok (.ireturn, 1) := by decide +kernel
theorem dX5_leastHours_22 : decode cX5_leastHours 22 = .ok (.iconst 0, 1) := by decide +kernel
theorem dX5_leastHours_23 : decode cX5_leastHours 23 = .ok (.istore_n 2, 1) := by decide +kernel
theorem dX5_leastHours_24 : decode cX5_leastHours 24 = .ok (.iconst 0, 1) := by decide +kernel
theorem dX5_leastHours_25 : decode cX5_leastHours 25 = .ok (.istore_n 3, 1) := by decide +kernel
theorem dX5_leastHours_26 : decode cX5_leastHours 26 = .ok (.iconst 0, 1) := by decide +kernel
theorem dX5_leastHours_27 : decode cX5_leastHours 27 = .ok (.istore 4, 2) := by decide +kernel
theorem dX5_leastHours_29 : decode cX5_leastHours 29 = .ok (.iload 4, 2) := by decide +kernel
theorem dX5_leastHours_31 : decode cX5_leastHours 31 = .ok (.aload_n 0, 1) := by decide +kernel
theorem dX5_leastHours_32 : decode cX5_leastHours 32 = .ok (.getfield 68, 3) := by decide +kernel
theorem dX5_leastHours_35 : decode cX5_leastHours 35 = .ok (.if_icmp .ge 67, 3) := by decide +kernel
theorem dX5_leastHours_38 : decode cX5_leastHours 38 = .ok (.iload_n 2, 1) := by decide +kernel
theorem dX5_leastHours_39 : decode cX5_leastHours 39 = .ok (.aload_n 0, 1) := by decide +kernel
theorem dX5_leastHours_40 : decode cX5_leastHours 40 = .ok (.getfield 24, 3) := by decide +kernel
theorem dX5_leastHours_43 : decode cX5_leastHours 43 = .ok (.iload 4, 2) := by decide +kernel
theorem dX5_leastHours_45 : decode cX5_leastHours 45 = .ok (.iaload, 1) := by decide +kernel
theorem dX5_leastHours_46 : decode cX5_leastHours 46 = .ok (.iload_n 1, 1) := by decide +kernel
theorem dX5_leastHours_47 : decode cX5_leastHours 47 = .ok (.if_icmp .ne 21, 3) := by decide +kernel
theorem dX5_leastHours_50 : decode cX5_leastHours 50 = .ok (.aload_n 0, 1) := by decide +kernel
theorem dX5_leastHours_51 : decode cX5_leastHours 51 = .ok (.getfield 30, 3) := by decide +kernel
theorem dX5_leastHours_54 : decode cX5_leastHours 54 = .ok (.iload 4, 2) := by decide +kernel
theorem dX5_leastHours_56 : decode cX5_leastHours 56 = .ok (.iaload, 1) := by decide +kernel
theorem dX5_leastHours_57 : decode cX5_leastHours 57 = .ok (.aload_n 0, 1) := by decide +kernel
theorem dX5_leastHours_58 : decode cX5_leastHours 58 = .ok (.getfield 27, 3) := by decide +kernel
theorem dX5_leastHours_61 : decode cX5_leastHours 61 = .ok (.iload 4, 2) := by decide +kernel
theorem dX5_leastHours_63 : decode cX5_leastHours 63 = .ok (.iaload, 1) := by decide +kernel
theorem dX5_leastHours_64 : decode cX5_leastHours 64 = .ok (.imul, 1) := by decide +kernel
theorem dX5_leastHours_65 : decode cX5_leastHours 65 = .ok (.goto 4, 3) := by decide +kernel
theorem dX5_leastHours_68 : decode cX5_leastHours 68 = .ok (.iconst 0, 1) := by decide +kernel
theorem dX5_leastHours_69 : decode cX5_leastHours 69 = .ok (.iadd, 1) := by decide +kernel
theorem dX5_leastHours_70 : decode cX5_leastHours 70 = .ok (.istore_n 2, 1) := by decide +kernel
theorem dX5_leastHours_71 : decode cX5_leastHours 71 = .ok (.iload_n 3, 1) := by decide +kernel
theorem dX5_leastHours_72 : decode cX5_leastHours 72 = .ok (.aload_n 0, 1) := by decide +kernel
theorem dX5_leastHours_73 : decode cX5_leastHours 73 = .ok (.getfield 24, 3) := by decide +kernel
theorem dX5_leastHours_76 : decode cX5_leastHours 76 = .ok (.iload 4, 2) := by decide +kernel
theorem dX5_leastHours_78 : decode cX5_leastHours 78 = .ok (.iaload, 1) := by decide +kernel
theorem dX5_leastHours_79 : decode cX5_leastHours 79 = .ok (.iload_n 1, 1) := by decide +kernel
theorem dX5_leastHours_80 : decode cX5_leastHours 80 = .ok (.if_icmp .ne 13, 3) := by decide +kernel
theorem dX5_leastHours_83 : decode cX5_leastHours 83 = .ok (.aload_n 0, 1) := by decide +kernel
theorem dX5_leastHours_84 : decode cX5_leastHours 84 = .ok (.getfield 30, 3) := by decide +kernel
theorem dX5_leastHours_87 : decode cX5_leastHours 87 = .ok (.iload 4, 2) := by decide +kernel
theorem dX5_leastHours_89 : decode cX5_leastHours 89 = .ok (.iaload, 1) := by decide +kernel
theorem dX5_leastHours_90 : decode cX5_leastHours 90 = .ok (.goto 4, 3) := by decide +kernel
theorem dX5_leastHours_93 : decode cX5_leastHours 93 = .ok (.iconst 0, 1) := by decide +kernel
theorem dX5_leastHours_94 : decode cX5_leastHours 94 = .ok (.iadd, 1) := by decide +kernel
theorem dX5_leastHours_95 : decode cX5_leastHours 95 = .ok (.istore_n 3, 1) := by decide +kernel
theorem dX5_leastHours_96 : decode cX5_leastHours 96 = .ok (.iinc 4 1, 3) := by decide +kernel
theorem dX5_leastHours_99 : decode cX5_leastHours 99 = .ok (.goto (-70), 3) := by decide +kernel
theorem dX5_leastHours_102 : decode cX5_leastHours 102 = .ok (.iload_n 2, 1) := by decide +kernel
theorem dX5_leastHours_103 : decode cX5_leastHours 103 = .ok (.aload_n 0, 1) := by decide +kernel
theorem dX5_leastHours_104 : decode cX5_leastHours 104 = .ok (.getfield 13, 3) := by decide +kernel
theorem dX5_leastHours_107 : decode cX5_leastHours 107 = .ok (.iadd, 1) := by decide +kernel
theorem dX5_leastHours_108 : decode cX5_leastHours 108 = .ok (.iconst 1, 1) := by decide +kernel
theorem dX5_leastHours_109 : decode cX5_leastHours 109 = .ok (.isub, 1) := by decide +kernel
theorem dX5_leastHours_110 : decode cX5_leastHours 110 = .ok (.aload_n 0, 1) := by decide +kernel
theorem dX5_leastHours_111 : decode cX5_leastHours 111 = .ok (.getfield 13, 3) := by decide +kernel
theorem dX5_leastHours_114 : decode cX5_leastHours 114 = .ok (.idiv, 1) := by decide +kernel
theorem dX5_leastHours_115 : decode cX5_leastHours 115 = .ok (.istore 4, 2) := by decide +kernel
theorem dX5_leastHours_117 : decode cX5_leastHours 117 = .ok (.iload_n 3, 1) := by decide +kernel
theorem dX5_leastHours_118 : decode cX5_leastHours 118 = .ok (.bipush 6, 2) := by decide +kernel
theorem dX5_leastHours_120 : decode cX5_leastHours 120 = .ok (.iadd, 1) := by decide +kernel
theorem dX5_leastHours_121 : decode cX5_leastHours 121 = .ok (.iconst 1, 1) := by decide +kernel
theorem dX5_leastHours_122 : decode cX5_leastHours 122 = .ok (.isub, 1) := by decide +kernel
theorem dX5_leastHours_123 : decode cX5_leastHours 123 = .ok (.bipush 6, 2) := by decide +kernel
theorem dX5_leastHours_125 : decode cX5_leastHours 125 = .ok (.idiv, 1) := by decide +kernel
theorem dX5_leastHours_126 : decode cX5_leastHours 126 = .ok (.istore 5, 2) := by decide +kernel
theorem dX5_leastHours_128 : decode cX5_leastHours 128 = .ok (.iload 4, 2) := by decide +kernel
theorem dX5_leastHours_130 : decode cX5_leastHours 130 = .ok (.iload 5, 2) := by decide +kernel
theorem dX5_leastHours_132 : decode cX5_leastHours 132 = .ok (.if_icmp .le 8, 3) := by decide +kernel
theorem dX5_leastHours_135 : decode cX5_leastHours 135 = .ok (.iload 4, 2) := by decide +kernel
theorem dX5_leastHours_137 : decode cX5_leastHours 137 = .ok (.goto 5, 3) := by decide +kernel
theorem dX5_leastHours_140 : decode cX5_leastHours 140 = .ok (.iload 5, 2) := by decide +kernel
theorem dX5_leastHours_142 : decode cX5_leastHours 142 = .ok (.ireturn, 1) := by decide +kernel
set_option maxRecDepth 20000 in
theorem ggX5_setShare_X5_in : GoodIn wsX5_setShare wsX5_in := goodIn_r _ [5] (by decide +kernel) (by decide +kernel)
set_option maxRecDepth 20000 in
theorem gX5_setShare_X5_in : GoodIn wsX5_setShare (va_wsS RX5 64 yX5_in wsX5_in) := goodIn_app (goodIn_of _ (by decide +kernel)) ggX5_setShare_X5_in
set_option maxRecDepth 20000 in
theorem ggX5_setShare_X5_goesOn : GoodIn wsX5_setShare wsX5_goesOn := goodIn_r _ [9, 10, 11, 12, 13, 14, 15, 16, 17, 18, 19, 20, 21, 22, 23, 24, 25, 26, 27, 28, 29, 30, 31, 32, 33, 34, 35, 36, 37, 38, 39] (by decide +kernel) (by decide +kernel)
set_option maxRecDepth 20000 in
theorem gX5_setShare_X5_goesOn : GoodIn wsX5_setShare (wsV RX5 75 RX5 yX5_goesOn wsX5_goesOn) := goodIn_app (goodIn_of _ (by decide +kernel)) ggX5_setShare_X5_goesOn
theorem dX5_setShare_0 : decode cX5_setShare 0 = .ok (.aload_n 0, 1) := by decide +kernel
theorem dX5_setShare_1 : decode cX5_setShare 1 = .ok (.getfield 36, 3) := by decide +kernel
theorem dX5_setShare_4 : decode cX5_setShare 4 = .ok (.istore_n 2, 1) := by decide +kernel
theorem dX5_setShare_5 : decode cX5_setShare 5 = .ok (.aload_n 0, 1) := by decide +kernel
theorem dX5_setShare_6 : decode cX5_setShare 6 = .ok (.aload_n 0, 1) := by decide +kernel
theorem dX5_setShare_7 : decode cX5_setShare 7 = .ok (.iload_n 1, 1) := by decide +kernel
theorem dX5_setShare_8 : decode cX5_setShare 8 = .ok (.iconst 0, 1) := by decide +kernel
theorem dX5_setShare_9 : decode cX5_setShare 9 = .ok (.bipush 50, 2) := by decide +kernel
theorem dX5_setShare_11 : decode cX5_setShare 11 = .ok (.invokestatic 64, 3) := by decide +kernel
theorem dX5_setShare_14 : decode cX5_setShare 14 = .ok (.ifCond .eq 7, 3) := by decide +kernel
theorem dX5_setShare_17 : decode cX5_setShare 17 = .ok (.iconst 0, 1) := by decide +kernel
theorem dX5_setShare_18 : decode cX5_setShare 18 = .ok (.goto 4, 3) := by decide +kernel
theorem dX5_setShare_21 : decode cX5_setShare 21 = .ok (.iconst 1, 1) := by decide +kernel
theorem dX5_setShare_22 : decode cX5_setShare 22 = .ok (.invokevirtual 75, 3) := by decide +kernel
theorem dX5_setShare_25 : decode cX5_setShare 25 = .ok (.ifCond .eq 7, 3) := by decide +kernel
theorem dX5_setShare_28 : decode cX5_setShare 28 = .ok (.iload_n 1, 1) := by decide +kernel
theorem dX5_setShare_29 : decode cX5_setShare 29 = .ok (.goto 7, 3) := by decide +kernel
theorem dX5_setShare_32 : decode cX5_setShare 32 = .ok (.aload_n 0, 1) := by decide +kernel
theorem dX5_setShare_33 : decode cX5_setShare 33 = .ok (.getfield 36, 3) := by decide +kernel
theorem dX5_setShare_36 : decode cX5_setShare 36 = .ok (.putfield 36, 3) := by decide +kernel
theorem dX5_setShare_39 : decode cX5_setShare 39 = .ok (.iload_n 2, 1) := by decide +kernel
theorem dX5_setShare_40 : decode cX5_setShare 40 = .ok (.ireturn, 1) := by decide +kernel
set_option maxRecDepth 20000 in
theorem ggX5_setContract_X5_in : GoodIn wsX5_setContract wsX5_in := goodIn_r _ [7] (by decide +kernel) (by decide +kernel)
set_option maxRecDepth 20000 in
theorem gX5_setContract_X5_in : GoodIn wsX5_setContract (va_wsS RX5 64 yX5_in wsX5_in) := goodIn_app (goodIn_of _ (by decide +kernel)) ggX5_setContract_X5_in
set_option maxRecDepth 20000 in
theorem ggX5_setContract_X5_goesOn : GoodIn wsX5_setContract wsX5_goesOn := goodIn_r _ [11, 12, 13, 14, 15, 16, 17, 18, 19, 20, 21, 22, 23, 24, 25, 26, 27, 28, 29, 30, 31, 32, 33, 34, 35, 36, 37, 38, 39, 40, 41] (by decide +kernel) (by decide +kernel)
set_option maxRecDepth 20000 in
theorem gX5_setContract_X5_goesOn : GoodIn wsX5_setContract (wsV RX5 75 RX5 yX5_goesOn wsX5_goesOn) := goodIn_app (goodIn_of _ (by decide +kernel)) ggX5_setContract_X5_goesOn
theorem dX5_setContract_0 : decode cX5_setContract 0 = .ok (.aload_n 0, 1) := by decide +kernel
theorem dX5_setContract_1 : decode cX5_setContract 1 = .ok (.iload_n 1, 1) := by decide +kernel
theorem dX5_setContract_2 : decode cX5_setContract 2 = .ok (.iconst 0, 1) := by decide +kernel
theorem dX5_setContract_3 : decode cX5_setContract 3 = .ok (.sipush 9999, 3) := by decide +kernel
theorem dX5_setContract_6 : decode cX5_setContract 6 = .ok (.invokestatic 64, 3) := by decide +kernel
theorem dX5_setContract_9 : decode cX5_setContract 9 = .ok (.ifCond .eq 27, 3) := by decide +kernel
theorem dX5_setContract_12 : decode cX5_setContract 12 = .ok (.iload_n 2, 1) := by decide +kernel
theorem dX5_setContract_13 : decode cX5_setContract 13 = .ok (.iconst 0, 1) := by decide +kernel
theorem dX5_setContract_14 : decode cX5_setContract 14 = .ok (.bipush 99, 2) := by decide +kernel
theorem dX5_setContract_16 : decode cX5_setContract 16 = .ok (.invokestatic 64, 3) := by decide +kernel
theorem dX5_setContract_19 : decode cX5_setContract 19 = .ok (.ifCond .eq 17, 3) := by decide +kernel
theorem dX5_setContract_22 : decode cX5_setContract 22 = .ok (.iload_n 3, 1) := by decide +kernel
theorem dX5_setContract_23 : decode cX5_setContract 23 = .ok (.iconst 0, 1) := by decide +kernel
theorem dX5_setContract_24 : decode cX5_setContract 24 = .ok (.bipush 99, 2) := by decide +kernel
theorem dX5_setContract_26 : decode cX5_setContract 26 = .ok (.invokestatic 64, 3) := by decide +kernel
theorem dX5_setContract_29 : decode cX5_setContract 29 = .ok (.ifCond .eq 7, 3) := by decide +kernel
theorem dX5_setContract_32 : decode cX5_setContract 32 = .ok (.iconst 0, 1) := by decide +kernel
theorem dX5_setContract_33 : decode cX5_setContract 33 = .ok (.goto 4, 3) := by decide +kernel
theorem dX5_setContract_36 : decode cX5_setContract 36 = .ok (.iconst 1, 1) := by decide +kernel
theorem dX5_setContract_37 : decode cX5_setContract 37 = .ok (.invokevirtual 75, 3) := by decide +kernel
theorem dX5_setContract_40 : decode cX5_setContract 40 = .ok (.ifCond .ne 5, 3) := by decide +kernel
theorem dX5_setContract_43 : decode cX5_setContract 43 = .ok (.iconst 0, 1) := by decide +kernel
theorem dX5_setContract_44 : decode cX5_setContract 44 = .ok (.ireturn, 1) := by decide +kernel
theorem dX5_setContract_45 : decode cX5_setContract 45 = .ok (.aload_n 0, 1) := by decide +kernel
theorem dX5_setContract_46 : decode cX5_setContract 46 = .ok (.getfield 39, 3) := by decide +kernel
theorem dX5_setContract_49 : decode cX5_setContract 49 = .ok (.istore 4, 2) := by decide +kernel
theorem dX5_setContract_51 : decode cX5_setContract 51 = .ok (.aload_n 0, 1) := by decide +kernel
theorem dX5_setContract_52 : decode cX5_setContract 52 = .ok (.iload_n 1, 1) := by decide +kernel
theorem dX5_setContract_53 : decode cX5_setContract 53 = .ok (.putfield 39, 3) := by decide +kernel
theorem dX5_setContract_56 : decode cX5_setContract 56 = .ok (.aload_n 0, 1) := by decide +kernel
theorem dX5_setContract_57 : decode cX5_setContract 57 = .ok (.iload_n 2, 1) := by decide +kernel
theorem dX5_setContract_58 : decode cX5_setContract 58 = .ok (.putfield 42, 3) := by decide +kernel
theorem dX5_setContract_61 : decode cX5_setContract 61 = .ok (.aload_n 0, 1) := by decide +kernel
theorem dX5_setContract_62 : decode cX5_setContract 62 = .ok (.iload_n 3, 1) := by decide +kernel
theorem dX5_setContract_63 : decode cX5_setContract 63 = .ok (.putfield 45, 3) := by decide +kernel
theorem dX5_setContract_66 : decode cX5_setContract 66 = .ok (.iload 4, 2) := by decide +kernel
theorem dX5_setContract_68 : decode cX5_setContract 68 = .ok (.ireturn, 1) := by decide +kernel
theorem dX5_makes_0 : decode cX5_makes 0 = .ok (.iload_n 1, 1) := by decide +kernel
theorem dX5_makes_1 : decode cX5_makes 1 = .ok (.bipush 50, 2) := by decide +kernel
theorem dX5_makes_3 : decode cX5_makes 3 = .ok (.idiv, 1) := by decide +kernel
theorem dX5_makes_4 : decode cX5_makes 4 = .ok (.istore_n 3, 1) := by decide +kernel
theorem dX5_makes_5 : decode cX5_makes 5 = .ok (.iload_n 1, 1) := by decide +kernel
theorem dX5_makes_6 : decode cX5_makes 6 = .ok (.iload_n 3, 1) := by decide +kernel
theorem dX5_makes_7 : decode cX5_makes 7 = .ok (.iadd, 1) := by decide +kernel
theorem dX5_makes_8 : decode cX5_makes 8 = .ok (.aload_n 0, 1) := by decide +kernel
theorem dX5_makes_9 : decode cX5_makes 9 = .ok (.getfield 36, 3) := by decide +kernel
theorem dX5_makes_12 : decode cX5_makes 12 = .ok (.imul, 1) := by decide +kernel
theorem dX5_makes_13 : decode cX5_makes 13 = .ok (.bipush 100, 2) := by decide +kernel
theorem dX5_makes_15 : decode cX5_makes 15 = .ok (.idiv, 1) := by decide +kernel
theorem dX5_makes_16 : decode cX5_makes 16 = .ok (.istore 4, 2) := by decide +kernel
theorem dX5_makes_18 : decode cX5_makes 18 = .ok (.iload 4, 2) := by decide +kernel
theorem dX5_makes_20 : decode cX5_makes 20 = .ok (.aload_n 0, 1) := by decide +kernel
theorem dX5_makes_21 : decode cX5_makes 21 = .ok (.getfield 111, 3) := by decide +kernel
theorem dX5_makes_24 : decode cX5_makes 24 = .ok (.if_icmp .ge 8, 3) := by decide +kernel
theorem dX5_makes_27 : decode cX5_makes 27 = .ok (.iload 4, 2) := by decide +kernel
theorem dX5_makes_29 : decode cX5_makes 29 = .ok (.goto 7, 3) := by decide +kernel
theorem dX5_makes_32 : decode cX5_makes 32 = .ok (.aload_n 0, 1) := by decide +kernel
theorem dX5_makes_33 : decode cX5_makes 33 = .ok (.getfield 111, 3) := by decide +kernel
theorem dX5_makes_36 : decode cX5_makes 36 = .ok (.istore 4, 2) := by decide +kernel
theorem dX5_makes_38 : decode cX5_makes 38 = .ok (.aload_n 0, 1) := by decide +kernel
theorem dX5_makes_39 : decode cX5_makes 39 = .ok (.dup, 1) := by decide +kernel
theorem dX5_makes_40 : decode cX5_makes 40 = .ok (.getfield 111, 3) := by decide +kernel
theorem dX5_makes_43 : decode cX5_makes 43 = .ok (.iload_n 2, 1) := by decide +kernel
theorem dX5_makes_44 : decode cX5_makes 44 = .ok (.iload 4, 2) := by decide +kernel
theorem dX5_makes_46 : decode cX5_makes 46 = .ok (.isub, 1) := by decide +kernel
theorem dX5_makes_47 : decode cX5_makes 47 = .ok (.iadd, 1) := by decide +kernel
theorem dX5_makes_48 : decode cX5_makes 48 = .ok (.putfield 111, 3) := by decide +kernel
theorem dX5_makes_51 : decode cX5_makes 51 = .ok (.aload_n 0, 1) := by decide +kernel
theorem dX5_makes_52 : decode cX5_makes 52 = .ok (.dup, 1) := by decide +kernel
theorem dX5_makes_53 : decode cX5_makes 53 = .ok (.getfield 114, 3) := by decide +kernel
theorem dX5_makes_56 : decode cX5_makes 56 = .ok (.iload_n 1, 1) := by decide +kernel
theorem dX5_makes_57 : decode cX5_makes 57 = .ok (.iload_n 3, 1) := by decide +kernel
theorem dX5_makes_58 : decode cX5_makes 58 = .ok (.iadd, 1) := by decide +kernel
theorem dX5_makes_59 : decode cX5_makes 59 = .ok (.iload 4, 2) := by decide +kernel
theorem dX5_makes_61 : decode cX5_makes 61 = .ok (.isub, 1) := by decide +kernel
theorem dX5_makes_62 : decode cX5_makes 62 = .ok (.i2l, 1) := by decide +kernel
theorem dX5_makes_63 : decode cX5_makes 63 = .ok (.ladd, 1) := by decide +kernel
theorem dX5_makes_64 : decode cX5_makes 64 = .ok (.putfield 114, 3) := by decide +kernel
theorem dX5_makes_67 : decode cX5_makes 67 = .ok (.aload_n 0, 1) := by decide +kernel
theorem dX5_makes_68 : decode cX5_makes 68 = .ok (.dup, 1) := by decide +kernel
theorem dX5_makes_69 : decode cX5_makes 69 = .ok (.getfield 118, 3) := by decide +kernel
theorem dX5_makes_72 : decode cX5_makes 72 = .ok (.iload_n 1, 1) := by decide +kernel
theorem dX5_makes_73 : decode cX5_makes 73 = .ok (.iload_n 2, 1) := by decide +kernel
theorem dX5_makes_74 : decode cX5_makes 74 = .ok (.isub, 1) := by decide +kernel
theorem dX5_makes_75 : decode cX5_makes 75 = .ok (.i2l, 1) := by decide +kernel
theorem dX5_makes_76 : decode cX5_makes 76 = .ok (.ladd, 1) := by decide +kernel
theorem dX5_makes_77 : decode cX5_makes 77 = .ok (.putfield 118, 3) := by decide +kernel
theorem dX5_makes_80 : decode cX5_makes 80 = .ok (.aload_n 0, 1) := by decide +kernel
theorem dX5_makes_81 : decode cX5_makes 81 = .ok (.dup, 1) := by decide +kernel
theorem dX5_makes_82 : decode cX5_makes 82 = .ok (.getfield 121, 3) := by decide +kernel
theorem dX5_makes_85 : decode cX5_makes 85 = .ok (.iload_n 3, 1) := by decide +kernel
theorem dX5_makes_86 : decode cX5_makes 86 = .ok (.i2l, 1) := by decide +kernel
theorem dX5_makes_87 : decode cX5_makes 87 = .ok (.ladd, 1) := by decide +kernel
theorem dX5_makes_88 : decode cX5_makes 88 = .ok (.putfield 121, 3) := by decide +kernel
theorem dX5_makes_91 : decode cX5_makes 91 = .ok (.aload_n 0, 1) := by decide +kernel
theorem dX5_makes_92 : decode cX5_makes 92 = .ok (.dup, 1) := by decide +kernel
theorem dX5_makes_93 : decode cX5_makes 93 = .ok (.getfield 124, 3) := by decide +kernel
theorem dX5_makes_96 : decode cX5_makes 96 = .ok (.iload_n 1, 1) := by decide +kernel
theorem dX5_makes_97 : decode cX5_makes 97 = .ok (.i2l, 1) := by decide +kernel
theorem dX5_makes_98 : decode cX5_makes 98 = .ok (.ladd, 1) := by decide +kernel
theorem dX5_makes_99 : decode cX5_makes 99 = .ok (.putfield 124, 3) := by decide +kernel
theorem dX5_makes_102 : decode cX5_makes 102 = .ok (.iload_n 1, 1) := by decide +kernel
theorem dX5_makes_103 : decode cX5_makes 103 = .ok (.iconst 2, 1) := by decide +kernel
theorem dX5_makes_104 : decode cX5_makes 104 = .ok (.idiv, 1) := by decide +kernel
theorem dX5_makes_105 : decode cX5_makes 105 = .ok (.istore 5, 2) := by decide +kernel
theorem dX5_makes_107 : decode cX5_makes 107 = .ok (.iload 5, 2) := by decide +kernel
theorem dX5_makes_109 : decode cX5_makes 109 = .ok (.aload_n 0, 1) := by decide +kernel
theorem dX5_makes_110 : decode cX5_makes 110 = .ok (.getfield 39, 3) := by decide +kernel
theorem dX5_makes_113 : decode cX5_makes 113 = .ok (.if_icmp .ge 8, 3) := by decide +kernel
theorem dX5_makes_116 : decode cX5_makes 116 = .ok (.iload 5, 2) := by decide +kernel
theorem dX5_makes_118 : decode cX5_makes 118 = .ok (.goto 7, 3) := by decide +kernel
theorem dX5_makes_121 : decode cX5_makes 121 = .ok (.aload_n 0, 1) := by decide +kernel
theorem dX5_makes_122 : decode cX5_makes 122 = .ok (.getfield 39, 3) := by decide +kernel
theorem dX5_makes_125 : decode cX5_makes 125 = .ok (.istore 6, 2) := by decide +kernel
theorem dX5_makes_127 : decode cX5_makes 127 = .ok (.aload_n 0, 1) := by decide +kernel
theorem dX5_makes_128 : decode cX5_makes 128 = .ok (.dup, 1) := by decide +kernel
theorem dX5_makes_129 : decode cX5_makes 129 = .ok (.getfield 127, 3) := by decide +kernel
theorem dX5_makes_132 : decode cX5_makes 132 = .ok (.iload 6, 2) := by decide +kernel
theorem dX5_makes_134 : decode cX5_makes 134 = .ok (.aload_n 0, 1) := by decide +kernel
theorem dX5_makes_135 : decode cX5_makes 135 = .ok (.getfield 42, 3) := by decide +kernel
theorem dX5_makes_138 : decode cX5_makes 138 = .ok (.imul, 1) := by decide +kernel
theorem dX5_makes_139 : decode cX5_makes 139 = .ok (.iload 5, 2) := by decide +kernel
theorem dX5_makes_141 : decode cX5_makes 141 = .ok (.iload 6, 2) := by decide +kernel
theorem dX5_makes_143 : decode cX5_makes 143 = .ok (.isub, 1) := by decide +kernel
theorem dX5_makes_144 : decode cX5_makes 144 = .ok (.aload_n 0, 1) := by decide +kernel
theorem dX5_makes_145 : decode cX5_makes 145 = .ok (.getfield 45, 3) := by decide +kernel
theorem dX5_makes_148 : decode cX5_makes 148 = .ok (.imul, 1) := by decide +kernel
theorem dX5_makes_149 : decode cX5_makes 149 = .ok (.iadd, 1) := by decide +kernel
theorem dX5_makes_150 : decode cX5_makes 150 = .ok (.i2l, 1) := by decide +kernel
theorem dX5_makes_151 : decode cX5_makes 151 = .ok (.ladd, 1) := by decide +kernel
theorem dX5_makes_152 : decode cX5_makes 152 = .ok (.putfield 127, 3) := by decide +kernel
theorem dX5_makes_155 : decode cX5_makes 155 = .ok (.return_, 1) := by decide +kernel
set_option maxRecDepth 20000 in
theorem ggX5_cuts_X5_looks : GoodIn wsX5_cuts wsX5_looks := goodIn_ca (goodIn_ca (goodIn_r _ [15, 16, 17, 18, 19, 14, 20, 4, 6, 21, 22, 5, 10, 23, 43, 44, 45, 46, 47, 48, 49, 50, 51, 52, 53, 54, 55, 56, 57, 58, 59, 60, 61, 62, 63, 64, 65, 66, 67, 68, 69, 70, 71] (by decide +kernel) (by decide +kernel)) (goodIn_sub (fun _ h => List.mem_cons_of_mem _ (List.mem_append_left _ (List.mem_append_right _ h))) (by decide +kernel))) (goodIn_sub (fun _ h => List.mem_cons_of_mem _ (List.mem_append_right _ h)) (by decide +kernel))
set_option maxRecDepth 20000 in
theorem gX5_cuts_X5_looks : GoodIn wsX5_cuts (wsV RX5 105 RX5 yX5_looks wsX5_looks) := goodIn_app (goodIn_of _ (by decide +kernel)) ggX5_cuts_X5_looks
set_option maxRecDepth 20000 in
theorem ggX5_cuts_X5_massOf : GoodIn wsX5_cuts wsX5_massOf := goodIn_ca (goodIn_r _ [27, 28, 10, 43, 44, 45, 46, 47, 48, 49, 50, 51, 52, 53, 54, 55, 56, 57, 58, 59, 60, 61, 62, 63, 64, 65, 66, 67, 68, 69, 70, 71] (by decide +kernel) (by decide +kernel)) (goodIn_sub (fun _ h => List.mem_cons_of_mem _ (List.mem_append_left _ (List.mem_append_right _ h))) (by decide +kernel))
set_option maxRecDepth 20000 in
theorem gX5_cuts_X5_massOf : GoodIn wsX5_cuts (wsV RX5 91 RX5 yX5_massOf wsX5_massOf) := goodIn_app (goodIn_of _ (by decide +kernel)) ggX5_cuts_X5_massOf
set_option maxRecDepth 20000 in
theorem ggX5_cuts_X5_makes : GoodIn wsX5_cuts wsX5_makes := goodIn_r _ [32, 33, 34, 35, 36, 37, 38, 39, 40, 41, 42, 43, 44, 45, 46, 47, 48, 49, 50, 51, 52, 53, 54, 55, 56, 57, 58, 59, 60, 61, 62, 63, 64, 65, 66, 67, 68, 69, 70, 71] (by decide +kernel) (by decide +kernel)
set_option maxRecDepth 20000 in
theorem gX5_cuts_X5_makes : GoodIn wsX5_cuts (wsV RX5 139 RX5 yX5_makes wsX5_makes) := goodIn_app (goodIn_of _ (by decide +kernel)) ggX5_cuts_X5_makes
theorem dX5_cuts_0 : decode cX5_cuts 0 = .ok (.aload_n 0, 1) := by decide +kernel
theorem dX5_cuts_1 : decode cX5_cuts 1 = .ok (.aload_n 0, 1) := by decide +kernel
theorem dX5_cuts_2 : decode cX5_cuts 2 = .ok (.getfield 17, 3) := by decide +kernel
theorem dX5_cuts_5 : decode cX5_cuts 5 = .ok (.invokevirtual 105, 3) := by decide +kernel
theorem dX5_cuts_8 : decode cX5_cuts 8 = .ok (.istore_n 1, 1) := by decide +kernel
theorem dX5_cuts_9 : decode cX5_cuts 9 = .ok (.iload_n 1, 1) := by decide +kernel
theorem dX5_cuts_10 : decode cX5_cuts 10 = .ok (.ifCond .gt 16, 3) := by decide +kernel
theorem dX5_cuts_13 : decode cX5_cuts 13 = .ok (.aload_n 0, 1) := by decide +kernel
theorem dX5_cuts_14 : decode cX5_cuts 14 = .ok (.getfield 48, 3) := by decide +kernel
theorem dX5_cuts_17 : decode cX5_cuts 17 = .ok (.aload_n 0, 1) := by decide +kernel
theorem dX5_cuts_18 : decode cX5_cuts 18 = .ok (.getfield 130, 3) := by decide +kernel
theorem dX5_cuts_21 : decode cX5_cuts 21 = .ok (.bipush 110, 2) := by decide +kernel
theorem dX5_cuts_23 : decode cX5_cuts 23 = .ok (.castore, 1) := by decide +kernel
theorem dX5_cuts_24 : decode cX5_cuts 24 = .ok (.iconst 0, 1) := by decide +kernel
theorem dX5_cuts_25 : decode cX5_cuts 25 = .ok (.ireturn, 1) := by decide +kernel
theorem dX5_cuts_26 : decode cX5_cuts 26 = .ok (.iconst 0, 1) := by decide +kernel
theorem dX5_cuts_27 : decode cX5_cuts 27 = .ok (.istore_n 2, 1) := by decide +kernel
theorem dX5_cuts_28 : decode cX5_cuts 28 = .ok (.iconst 0, 1) := by decide +kernel
theorem dX5_cuts_29 : decode cX5_cuts 29 = .ok (.istore_n 3, 1) := by decide +kernel
theorem dX5_cuts_30 : decode cX5_cuts 30 = .ok (.iload_n 3, 1) := by decide +kernel
theorem dX5_cuts_31 : decode cX5_cuts 31 = .ok (.aload_n 0, 1) := by decide +kernel
theorem dX5_cuts_32 : decode cX5_cuts 32 = .ok (.getfield 68, 3) := by decide +kernel
theorem dX5_cuts_35 : decode cX5_cuts 35 = .ok (.if_icmp .ge 48, 3) := by decide +kernel
theorem dX5_cuts_38 : decode cX5_cuts 38 = .ok (.aload_n 0, 1) := by decide +kernel
theorem dX5_cuts_39 : decode cX5_cuts 39 = .ok (.getfield 30, 3) := by decide +kernel
theorem dX5_cuts_42 : decode cX5_cuts 42 = .ok (.iload_n 3, 1) := by decide +kernel
theorem dX5_cuts_43 : decode cX5_cuts 43 = .ok (.dup2, 1) := by decide +kernel
theorem dX5_cuts_44 : decode cX5_cuts 44 = .ok (.iaload, 1) := by decide +kernel
theorem dX5_cuts_45 : decode cX5_cuts 45 = .ok (.aload_n 0, 1) := by decide +kernel
theorem dX5_cuts_46 : decode cX5_cuts 46 = .ok (.getfield 55, 3) := by decide +kernel
theorem dX5_cuts_49 : decode cX5_cuts 49 = .ok (.iload_n 3, 1) := by decide +kernel
theorem dX5_cuts_50 : decode cX5_cuts 50 = .ok (.iaload, 1) := by decide +kernel
theorem dX5_cuts_51 : decode cX5_cuts 51 = .ok (.isub, 1) := by decide +kernel
theorem dX5_cuts_52 : decode cX5_cuts 52 = .ok (.iastore, 1) := by decide +kernel
theorem dX5_cuts_53 : decode cX5_cuts 53 = .ok (.aload_n 0, 1) := by decide +kernel
theorem dX5_cuts_54 : decode cX5_cuts 54 = .ok (.getfield 33, 3) := by decide +kernel
theorem dX5_cuts_57 : decode cX5_cuts 57 = .ok (.iload_n 3, 1) := by decide +kernel
theorem dX5_cuts_58 : decode cX5_cuts 58 = .ok (.dup2, 1) := by decide +kernel
theorem dX5_cuts_59 : decode cX5_cuts 59 = .ok (.iaload, 1) := by decide +kernel
theorem dX5_cuts_60 : decode cX5_cuts 60 = .ok (.aload_n 0, 1) := by decide +kernel
theorem dX5_cuts_61 : decode cX5_cuts 61 = .ok (.getfield 55, 3) := by decide +kernel
theorem dX5_cuts_64 : decode cX5_cuts 64 = .ok (.iload_n 3, 1) := by decide +kernel
theorem dX5_cuts_65 : decode cX5_cuts 65 = .ok (.iaload, 1) := by decide +kernel
theorem dX5_cuts_66 : decode cX5_cuts 66 = .ok (.iadd, 1) := by decide +kernel
theorem dX5_cuts_67 : decode cX5_cuts 67 = .ok (.iastore, 1) := by decide +kernel
theorem dX5_cuts_68 : decode cX5_cuts 68 = .ok (.iload_n 2, 1) := by decide +kernel
theorem dX5_cuts_69 : decode cX5_cuts 69 = .ok (.aload_n 0, 1) := by decide +kernel
theorem dX5_cuts_70 : decode cX5_cuts 70 = .ok (.getfield 55, 3) := by decide +kernel
theorem dX5_cuts_73 : decode cX5_cuts 73 = .ok (.iload_n 3, 1) := by decide +kernel
theorem dX5_cuts_74 : decode cX5_cuts 74 = .ok (.iaload, 1) := by decide +kernel
theorem dX5_cuts_75 : decode cX5_cuts 75 = .ok (.iadd, 1) := by decide +kernel
theorem dX5_cuts_76 : decode cX5_cuts 76 = .ok (.istore_n 2, 1) := by decide +kernel
theorem dX5_cuts_77 : decode cX5_cuts 77 = .ok (.iinc 3 1, 3) := by decide +kernel
theorem dX5_cuts_80 : decode cX5_cuts 80 = .ok (.goto (-50), 3) := by decide +kernel
theorem dX5_cuts_83 : decode cX5_cuts 83 = .ok (.aload_n 0, 1) := by decide +kernel
theorem dX5_cuts_84 : decode cX5_cuts 84 = .ok (.getfield 48, 3) := by decide +kernel
theorem dX5_cuts_87 : decode cX5_cuts 87 = .ok (.aload_n 0, 1) := by decide +kernel
theorem dX5_cuts_88 : decode cX5_cuts 88 = .ok (.getfield 130, 3) := by decide +kernel
theorem dX5_cuts_91 : decode cX5_cuts 91 = .ok (.bipush 112, 2) := by decide +kernel
theorem dX5_cuts_93 : decode cX5_cuts 93 = .ok (.castore, 1) := by decide +kernel
theorem dX5_cuts_94 : decode cX5_cuts 94 = .ok (.aload_n 0, 1) := by decide +kernel
theorem dX5_cuts_95 : decode cX5_cuts 95 = .ok (.dup, 1) := by decide +kernel
theorem dX5_cuts_96 : decode cX5_cuts 96 = .ok (.getfield 133, 3) := by decide +kernel
theorem dX5_cuts_99 : decode cX5_cuts 99 = .ok (.iconst 1, 1) := by decide +kernel
theorem dX5_cuts_100 : decode cX5_cuts 100 = .ok (.iadd, 1) := by decide +kernel
theorem dX5_cuts_101 : decode cX5_cuts 101 = .ok (.putfield 133, 3) := by decide +kernel
theorem dX5_cuts_104 : decode cX5_cuts 104 = .ok (.aload_n 0, 1) := by decide +kernel
theorem dX5_cuts_105 : decode cX5_cuts 105 = .ok (.dup, 1) := by decide +kernel
theorem dX5_cuts_106 : decode cX5_cuts 106 = .ok (.getfield 136, 3) := by decide +kernel
theorem dX5_cuts_109 : decode cX5_cuts 109 = .ok (.aload_n 0, 1) := by decide +kernel
theorem dX5_cuts_110 : decode cX5_cuts 110 = .ok (.getfield 13, 3) := by decide +kernel
theorem dX5_cuts_113 : decode cX5_cuts 113 = .ok (.iload_n 1, 1) := by decide +kernel
theorem dX5_cuts_114 : decode cX5_cuts 114 = .ok (.isub, 1) := by decide +kernel
theorem dX5_cuts_115 : decode cX5_cuts 115 = .ok (.iadd, 1) := by decide +kernel
theorem dX5_cuts_116 : decode cX5_cuts 116 = .ok (.putfield 136, 3) := by decide +kernel
theorem dX5_cuts_119 : decode cX5_cuts 119 = .ok (.aload_n 0, 1) := by decide +kernel
theorem dX5_cuts_120 : decode cX5_cuts 120 = .ok (.aload_n 0, 1) := by decide +kernel
theorem dX5_cuts_121 : decode cX5_cuts 121 = .ok (.aload_n 0, 1) := by decide +kernel
theorem dX5_cuts_122 : decode cX5_cuts 122 = .ok (.getfield 17, 3) := by decide +kernel
theorem dX5_cuts_125 : decode cX5_cuts 125 = .ok (.invokevirtual 91, 3) := by decide +kernel
theorem dX5_cuts_128 : decode cX5_cuts 128 = .ok (.aload_n 0, 1) := by decide +kernel
theorem dX5_cuts_129 : decode cX5_cuts 129 = .ok (.aload_n 0, 1) := by decide +kernel
theorem dX5_cuts_130 : decode cX5_cuts 130 = .ok (.getfield 17, 3) := by decide +kernel
theorem dX5_cuts_133 : decode cX5_cuts 133 = .ok (.invokevirtual 91, 3) := by decide +kernel
theorem dX5_cuts_136 : decode cX5_cuts 136 = .ok (.aload_n 0, 1) := by decide +kernel
theorem dX5_cuts_137 : decode cX5_cuts 137 = .ok (.getfield 13, 3) := by decide +kernel
theorem dX5_cuts_140 : decode cX5_cuts 140 = .ok (.iload_n 1, 1) := by decide +kernel
theorem dX5_cuts_141 : decode cX5_cuts 141 = .ok (.isub, 1) := by decide +kernel
theorem dX5_cuts_142 : decode cX5_cuts 142 = .ok (.imul, 1) := by decide +kernel
theorem dX5_cuts_143 : decode cX5_cuts 143 = .ok (.aload_n 0, 1) := by decide +kernel
theorem dX5_cuts_144 : decode cX5_cuts 144 = .ok (.getfield 13, 3) := by decide +kernel
theorem dX5_cuts_147 : decode cX5_cuts 147 = .ok (.idiv, 1) := by decide +kernel
theorem dX5_cuts_148 : decode cX5_cuts 148 = .ok (.invokevirtual 139, 3) := by decide +kernel
theorem dX5_cuts_151 : decode cX5_cuts 151 = .ok (.iload_n 2, 1) := by decide +kernel
theorem dX5_cuts_152 : decode cX5_cuts 152 = .ok (.ireturn, 1) := by decide +kernel
set_option maxRecDepth 20000 in
theorem ggX5_passesOne_X5_massOf : GoodIn wsX5_passesOne wsX5_massOf := goodIn_ca (goodIn_r _ [9, 10, 11, 48, 49, 50, 51, 52, 53, 54, 55, 56, 57, 58, 59, 60, 61, 62, 63, 64, 65, 66, 67, 68, 69, 70, 71, 72, 73, 74, 75, 76] (by decide +kernel) (by decide +kernel)) (goodIn_sub (fun _ h => List.mem_cons_of_mem _ (List.mem_append_left _ (List.mem_append_right _ h))) (by decide +kernel))
set_option maxRecDepth 20000 in
theorem gX5_passesOne_X5_massOf : GoodIn wsX5_passesOne (wsV RX5 91 RX5 yX5_massOf wsX5_massOf) := goodIn_app (goodIn_of _ (by decide +kernel)) ggX5_passesOne_X5_massOf
set_option maxRecDepth 20000 in
theorem ggX5_passesOne_X5_makes : GoodIn wsX5_passesOne wsX5_makes := goodIn_r _ [15, 16, 17, 18, 19, 20, 21, 22, 23, 24, 25, 48, 49, 50, 51, 52, 53, 54, 55, 56, 57, 58, 59, 60, 61, 62, 63, 64, 65, 66, 67, 68, 69, 70, 71, 72, 73, 74, 75, 76] (by decide +kernel) (by decide +kernel)
set_option maxRecDepth 20000 in
theorem gX5_passesOne_X5_makes : GoodIn wsX5_passesOne (wsV RX5 139 RX5 yX5_makes wsX5_makes) := goodIn_app (goodIn_of _ (by decide +kernel)) ggX5_passesOne_X5_makes
set_option maxRecDepth 20000 in
theorem ggX5_passesOne_X5_cuts : GoodIn wsX5_passesOne wsX5_cuts := goodIn_ca (goodIn_ca (goodIn_r _ [29, 1, 2, 3, 30, 31, 32, 33, 34, 35, 11, 36, 37, 38, 8, 39, 40, 41, 42, 43, 44, 45, 46, 47, 5, 6, 7, 9, 10, 12, 13, 14, 15, 16, 17, 18, 19, 20, 21, 22, 23, 24, 25, 48, 49, 50, 51, 52, 53, 54, 55, 56, 57, 58, 59, 60, 61, 62, 63, 64, 65, 66, 67, 68, 69, 70, 71, 72, 73, 74, 75, 76] (by decide +kernel) (by decide +kernel)) (goodIn_sub (fun _ h => List.mem_cons_of_mem _ (List.mem_append_left _ (List.mem_append_right _ h))) (by decide +kernel))) (goodIn_sub (fun _ h => List.mem_cons_of_mem _ (List.mem_append_right _ h)) (by decide +kernel))
set_option maxRecDepth 20000 in
theorem gX5_passesOne_X5_cuts : GoodIn wsX5_passesOne (wsV RX5 143 RX5 yX5_cuts wsX5_cuts) := goodIn_app (goodIn_of _ (by decide +kernel)) ggX5_passesOne_X5_cuts
theorem dX5_passesOne_0 : decode cX5_passesOne 0 = .ok (.iconst 0, 1) := by decide +kernel
theorem dX5_passesOne_1 : decode cX5_passesOne 1 = .ok (.istore_n 1, 1) := by decide +kernel
theorem dX5_passesOne_2 : decode cX5_passesOne 2 = .ok (.aload_n 0, 1) := by decide +kernel
theorem dX5_passesOne_3 : decode cX5_passesOne 3 = .ok (.getfield 17, 3) := by decide +kernel
theorem dX5_passesOne_6 : decode cX5_passesOne 6 = .ok (.iconst (-1), 1) := by decide +kernel
theorem dX5_passesOne_7 : decode cX5_passesOne 7 = .ok (.if_icmp .ne 17, 3) := by decide +kernel
theorem dX5_passesOne_10 : decode cX5_passesOne 10 = .ok (.aload_n 0, 1) := by decide +kernel
theorem dX5_passesOne_11 : decode cX5_passesOne 11 = .ok (.getfield 48, 3) := by decide +kernel
theorem dX5_passesOne_14 : decode cX5_passesOne 14 = .ok (.aload_n 0, 1) := by decide +kernel
theorem dX5_passesOne_15 : decode cX5_passesOne 15 = .ok (.getfield 130, 3) := by decide +kernel
theorem dX5_passesOne_18 : decode cX5_passesOne 18 = .ok (.bipush 110, 2) := by decide +kernel
theorem dX5_passesOne_20 : decode cX5_passesOne 20 = .ok (.castore, 1) := by decide +kernel
theorem dX5_passesOne_21 : decode cX5_passesOne 21 = .ok (.goto 59, 3) := by decide +kernel
theorem dX5_passesOne_24 : decode cX5_passesOne 24 = .ok (.aload_n 0, 1) := by decide +kernel
theorem dX5_passesOne_25 : decode cX5_passesOne 25 = .ok (.getfield 81, 3) := by decide +kernel
theorem dX5_passesOne_28 : decode cX5_passesOne 28 = .ok (.ifCond .le 47, 3) := by decide +kernel
theorem dX5_passesOne_31 : decode cX5_passesOne 31 = .ok (.aload_n 0, 1) := by decide +kernel
theorem dX5_passesOne_32 : decode cX5_passesOne 32 = .ok (.getfield 48, 3) := by decide +kernel
theorem dX5_passesOne_35 : decode cX5_passesOne 35 = .ok (.aload_n 0, 1) := by decide +kernel
theorem dX5_passesOne_36 : decode cX5_passesOne 36 = .ok (.getfield 130, 3) := by decide +kernel
theorem dX5_passesOne_39 : decode cX5_passesOne 39 = .ok (.bipush 99, 2) := by decide +kernel
theorem dX5_passesOne_41 : decode cX5_passesOne 41 = .ok (.castore, 1) := by decide +kernel
theorem dX5_passesOne_42 : decode cX5_passesOne 42 = .ok (.aload_n 0, 1) := by decide +kernel
theorem dX5_passesOne_43 : decode cX5_passesOne 43 = .ok (.aload_n 0, 1) := by decide +kernel
theorem dX5_passesOne_44 : decode cX5_passesOne 44 = .ok (.aload_n 0, 1) := by decide +kernel
theorem dX5_passesOne_45 : decode cX5_passesOne 45 = .ok (.getfield 17, 3) := by decide +kernel
theorem dX5_passesOne_48 : decode cX5_passesOne 48 = .ok (.invokevirtual 91, 3) := by decide +kernel
theorem dX5_passesOne_51 : decode cX5_passesOne 51 = .ok (.aload_n 0, 1) := by decide +kernel
theorem dX5_passesOne_52 : decode cX5_passesOne 52 = .ok (.aload_n 0, 1) := by decide +kernel
theorem dX5_passesOne_53 : decode cX5_passesOne 53 = .ok (.getfield 17, 3) := by decide +kernel
theorem dX5_passesOne_56 : decode cX5_passesOne 56 = .ok (.invokevirtual 91, 3) := by decide +kernel
theorem dX5_passesOne_59 : decode cX5_passesOne 59 = .ok (.invokevirtual 139, 3) := by decide +kernel
theorem dX5_passesOne_62 : decode cX5_passesOne 62 = .ok (.aload_n 0, 1) := by decide +kernel
theorem dX5_passesOne_63 : decode cX5_passesOne 63 = .ok (.dup, 1) := by decide +kernel
theorem dX5_passesOne_64 : decode cX5_passesOne 64 = .ok (.getfield 81, 3) := by decide +kernel
theorem dX5_passesOne_67 : decode cX5_passesOne 67 = .ok (.iconst 1, 1) := by decide +kernel
theorem dX5_passesOne_68 : decode cX5_passesOne 68 = .ok (.isub, 1) := by decide +kernel
theorem dX5_passesOne_69 : decode cX5_passesOne 69 = .ok (.putfield 81, 3) := by decide +kernel
theorem dX5_passesOne_72 : decode cX5_passesOne 72 = .ok (.goto 8, 3) := by decide +kernel
theorem dX5_passesOne_75 : decode cX5_passesOne 75 = .ok (.aload_n 0, 1) := by decide +kernel
theorem dX5_passesOne_76 : decode cX5_passesOne 76 = .ok (.invokevirtual 143, 3) := by decide +kernel
theorem dX5_passesOne_79 : decode cX5_passesOne 79 = .ok (.istore_n 1, 1) := by decide +kernel
theorem dX5_passesOne_80 : decode cX5_passesOne 80 = .ok (.aload_n 0, 1) := by decide +kernel
theorem dX5_passesOne_81 : decode cX5_passesOne 81 = .ok (.dup, 1) := by decide +kernel
theorem dX5_passesOne_82 : decode cX5_passesOne 82 = .ok (.getfield 130, 3) := by decide +kernel
theorem dX5_passesOne_85 : decode cX5_passesOne 85 = .ok (.iconst 1, 1) := by decide +kernel
theorem dX5_passesOne_86 : decode cX5_passesOne 86 = .ok (.iadd, 1) := by decide +kernel
theorem dX5_passesOne_87 : decode cX5_passesOne 87 = .ok (.putfield 130, 3) := by decide +kernel
theorem dX5_passesOne_90 : decode cX5_passesOne 90 = .ok (.iload_n 1, 1) := by decide +kernel
theorem dX5_passesOne_91 : decode cX5_passesOne 91 = .ok (.ireturn, 1) := by decide +kernel
set_option maxRecDepth 20000 in
theorem ggX5_pass_X5_in : GoodIn wsX5_pass wsX5_in := goodIn_r _ [5] (by decide +kernel) (by decide +kernel)
set_option maxRecDepth 20000 in
theorem gX5_pass_X5_in : GoodIn wsX5_pass (va_wsS RX5 64 yX5_in wsX5_in) := goodIn_app (goodIn_of _ (by decide +kernel)) ggX5_pass_X5_in
set_option maxRecDepth 20000 in
theorem ggX5_pass_X5_goesOn : GoodIn wsX5_pass wsX5_goesOn := goodIn_r _ [9, 10, 60, 61, 62, 63, 64, 65, 66, 67, 68, 69, 70, 71, 72, 73, 74, 75, 76, 77, 78, 79, 80, 81, 82, 83, 84, 85, 86, 87, 88] (by decide +kernel) (by decide +kernel)
set_option maxRecDepth 20000 in
theorem gX5_pass_X5_goesOn : GoodIn wsX5_pass (wsV RX5 75 RX5 yX5_goesOn wsX5_goesOn) := goodIn_app (goodIn_of _ (by decide +kernel)) ggX5_pass_X5_goesOn
set_option maxRecDepth 20000 in
theorem ggX5_pass_X5_passesOne : GoodIn wsX5_pass wsX5_passesOne := goodIn_ca (goodIn_ca (goodIn_r _ [14, 15, 16, 1, 17, 18, 19, 20, 4, 21, 22, 23, 24, 25, 26, 27, 28, 29, 30, 31, 32, 33, 34, 35, 36, 37, 38, 39, 40, 41, 42, 43, 44, 45, 46, 47, 48, 49, 50, 51, 52, 53, 54, 55, 56, 57, 58, 59, 60, 61, 62, 63, 64, 65, 66, 67, 68, 69, 70, 71, 72, 73, 74, 75, 76, 77, 78, 79, 80, 81, 82, 83, 84, 85, 86, 87, 88] (by decide +kernel) (by decide +kernel)) (goodIn_sub (fun _ h => List.mem_cons_of_mem _ (List.mem_append_left _ (List.mem_append_right _ h))) (by decide +kernel))) (goodIn_sub (fun _ h => List.mem_cons_of_mem _ (List.mem_append_right _ h)) (by decide +kernel))
set_option maxRecDepth 20000 in
theorem gX5_pass_X5_passesOne : GoodIn wsX5_pass (wsV RX5 147 RX5 yX5_passesOne wsX5_passesOne) := goodIn_app (goodIn_of _ (by decide +kernel)) ggX5_pass_X5_passesOne
theorem dX5_pass_0 : decode cX5_pass 0 = .ok (.aload_n 0, 1) := by decide +kernel
theorem dX5_pass_1 : decode cX5_pass 1 = .ok (.iload_n 1, 1) := by decide +kernel
theorem dX5_pass_2 : decode cX5_pass 2 = .ok (.iconst 1, 1) := by decide +kernel
theorem dX5_pass_3 : decode cX5_pass 3 = .ok (.bipush 48, 2) := by decide +kernel
theorem dX5_pass_5 : decode cX5_pass 5 = .ok (.invokestatic 64, 3) := by decide +kernel
theorem dX5_pass_8 : decode cX5_pass 8 = .ok (.ifCond .ne 7, 3) := by decide +kernel
theorem dX5_pass_11 : decode cX5_pass 11 = .ok (.iconst 1, 1) := by decide +kernel
theorem dX5_pass_12 : decode cX5_pass 12 = .ok (.goto 20, 3) := by decide +kernel
theorem dX5_pass_15 : decode cX5_pass 15 = .ok (.aload_n 0, 1) := by decide +kernel
theorem dX5_pass_16 : decode cX5_pass 16 = .ok (.getfield 130, 3) := by decide +kernel
theorem dX5_pass_19 : decode cX5_pass 19 = .ok (.iload_n 1, 1) := by decide +kernel
theorem dX5_pass_20 : decode cX5_pass 20 = .ok (.iadd, 1) := by decide +kernel
theorem dX5_pass_21 : decode cX5_pass 21 = .ok (.sipush 400, 3) := by decide +kernel
theorem dX5_pass_24 : decode cX5_pass 24 = .ok (.if_icmp .le 7, 3) := by decide +kernel
theorem dX5_pass_27 : decode cX5_pass 27 = .ok (.iconst 2, 1) := by decide +kernel
theorem dX5_pass_28 : decode cX5_pass 28 = .ok (.goto 4, 3) := by decide +kernel
theorem dX5_pass_31 : decode cX5_pass 31 = .ok (.iconst 0, 1) := by decide +kernel
theorem dX5_pass_32 : decode cX5_pass 32 = .ok (.invokevirtual 75, 3) := by decide +kernel
theorem dX5_pass_35 : decode cX5_pass 35 = .ok (.ifCond .ne 5, 3) := by decide +kernel
theorem dX5_pass_38 : decode cX5_pass 38 = .ok (.iconst 0, 1) := by decide +kernel
theorem dX5_pass_39 : decode cX5_pass 39 = .ok (.ireturn, 1) := by decide +kernel
theorem dX5_pass_40 : decode cX5_pass 40 = .ok (.iconst 0, 1) := by decide +kernel
theorem dX5_pass_41 : decode cX5_pass 41 = .ok (.istore_n 2, 1) := by decide +kernel
theorem dX5_pass_42 : decode cX5_pass 42 = .ok (.iconst 0, 1) := by decide +kernel
theorem dX5_pass_43 : decode cX5_pass 43 = .ok (.istore_n 3, 1) := by decide +kernel
theorem dX5_pass_44 : decode cX5_pass 44 = .ok (.iload_n 3, 1) := by decide +kernel
theorem dX5_pass_45 : decode cX5_pass 45 = .ok (.iload_n 1, 1) := by decide +kernel
