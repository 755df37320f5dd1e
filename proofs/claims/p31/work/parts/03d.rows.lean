theorem dX4_passAnHour_121 : decode cX4_passAnHour 121 = .ok (.getfield 48, 3) := by decide +kernel
theorem dX4_passAnHour_124 : decode cX4_passAnHour 124 = .ok (.iload_n 3, 1) := by decide +kernel
theorem dX4_passAnHour_125 : decode cX4_passAnHour 125 = .ok (.invokevirtual 255, 3) := by decide +kernel
theorem dX4_passAnHour_128 : decode cX4_passAnHour 128 = .ok (.aload_n 0, 1) := by decide +kernel
theorem dX4_passAnHour_129 : decode cX4_passAnHour 129 = .ok (.getfield 27, 3) := by decide +kernel
theorem dX4_passAnHour_132 : decode cX4_passAnHour 132 = .ok (.aload_n 0, 1) := by decide +kernel
theorem dX4_passAnHour_133 : decode cX4_passAnHour 133 = .ok (.getfield 34, 3) := by decide +kernel
theorem dX4_passAnHour_136 : decode cX4_passAnHour 136 = .ok (.getfield 164, 3) := by decide +kernel
theorem dX4_passAnHour_139 : decode cX4_passAnHour 139 = .ok (.invokevirtual 259, 3) := by decide +kernel
theorem dX4_passAnHour_142 : decode cX4_passAnHour 142 = .ok (.ireturn, 1) := by decide +kernel
set_option maxRecDepth 20000 in
theorem ggX4_make_X2_writeMade : GoodIn wsX4_make wsX2_writeMade := goodIn_r _ [15, 16, 17, 18, 19, 20, 21, 22, 23, 46, 47, 48, 49, 50, 51, 52, 53, 54, 55, 56] (by decide +kernel) (by decide +kernel)
set_option maxRecDepth 20000 in
theorem gX4_make_X2_writeMade : GoodIn wsX4_make (wsV RX4 266 RX2 yX2_writeMade wsX2_writeMade) := goodIn_app (goodIn_of _ (by decide +kernel)) ggX4_make_X2_writeMade
set_option maxRecDepth 20000 in
theorem ggX4_make_X0_cost : GoodIn wsX4_make wsX0_cost := goodIn_r _ [28, 29, 30, 4, 5, 6, 31, 32, 57, 58, 59] (by decide +kernel) (by decide +kernel)
set_option maxRecDepth 20000 in
theorem gX4_make_X0_cost : GoodIn wsX4_make (wsV RX4 270 RX0 yX0_cost wsX0_cost) := goodIn_app (goodIn_of _ (by decide +kernel)) ggX4_make_X0_cost
theorem dX4_make_0 : decode cX4_make 0 = .ok (.iload_n 2, 1) := by decide +kernel
theorem dX4_make_1 : decode cX4_make 1 = .ok (.bipush 50, 2) := by decide +kernel
theorem dX4_make_3 : decode cX4_make 3 = .ok (.idiv, 1) := by decide +kernel
theorem dX4_make_4 : decode cX4_make 4 = .ok (.istore 4, 2) := by decide +kernel
theorem dX4_make_6 : decode cX4_make 6 = .ok (.iload_n 2, 1) := by decide +kernel
theorem dX4_make_7 : decode cX4_make 7 = .ok (.iload 4, 2) := by decide +kernel
theorem dX4_make_9 : decode cX4_make 9 = .ok (.iadd, 1) := by decide +kernel
theorem dX4_make_10 : decode cX4_make 10 = .ok (.istore 5, 2) := by decide +kernel
theorem dX4_make_12 : decode cX4_make 12 = .ok (.aload_n 0, 1) := by decide +kernel
theorem dX4_make_13 : decode cX4_make 13 = .ok (.getfield 203, 3) := by decide +kernel
theorem dX4_make_16 : decode cX4_make 16 = .ok (.iload 5, 2) := by decide +kernel
theorem dX4_make_18 : decode cX4_make 18 = .ok (.aload_n 0, 1) := by decide +kernel
theorem dX4_make_19 : decode cX4_make 19 = .ok (.getfield 52, 3) := by decide +kernel
theorem dX4_make_22 : decode cX4_make 22 = .ok (.imul, 1) := by decide +kernel
theorem dX4_make_23 : decode cX4_make 23 = .ok (.bipush 100, 2) := by decide +kernel
theorem dX4_make_25 : decode cX4_make 25 = .ok (.idiv, 1) := by decide +kernel
theorem dX4_make_26 : decode cX4_make 26 = .ok (.invokestatic 263, 3) := by decide +kernel
theorem dX4_make_29 : decode cX4_make 29 = .ok (.istore 6, 2) := by decide +kernel
theorem dX4_make_31 : decode cX4_make 31 = .ok (.aload_n 0, 1) := by decide +kernel
theorem dX4_make_32 : decode cX4_make 32 = .ok (.dup, 1) := by decide +kernel
theorem dX4_make_33 : decode cX4_make 33 = .ok (.getfield 203, 3) := by decide +kernel
theorem dX4_make_36 : decode cX4_make 36 = .ok (.iload_n 3, 1) := by decide +kernel
theorem dX4_make_37 : decode cX4_make 37 = .ok (.iload 6, 2) := by decide +kernel
theorem dX4_make_39 : decode cX4_make 39 = .ok (.isub, 1) := by decide +kernel
theorem dX4_make_40 : decode cX4_make 40 = .ok (.iadd, 1) := by decide +kernel
theorem dX4_make_41 : decode cX4_make 41 = .ok (.putfield 203, 3) := by decide +kernel
theorem dX4_make_44 : decode cX4_make 44 = .ok (.aload_n 0, 1) := by decide +kernel
theorem dX4_make_45 : decode cX4_make 45 = .ok (.getfield 48, 3) := by decide +kernel
theorem dX4_make_48 : decode cX4_make 48 = .ok (.iload_n 1, 1) := by decide +kernel
theorem dX4_make_49 : decode cX4_make 49 = .ok (.iload 5, 2) := by decide +kernel
theorem dX4_make_51 : decode cX4_make 51 = .ok (.iload 6, 2) := by decide +kernel
theorem dX4_make_53 : decode cX4_make 53 = .ok (.isub, 1) := by decide +kernel
theorem dX4_make_54 : decode cX4_make 54 = .ok (.iload_n 2, 1) := by decide +kernel
theorem dX4_make_55 : decode cX4_make 55 = .ok (.iload_n 3, 1) := by decide +kernel
theorem dX4_make_56 : decode cX4_make 56 = .ok (.isub, 1) := by decide +kernel
theorem dX4_make_57 : decode cX4_make 57 = .ok (.iload 4, 2) := by decide +kernel
theorem dX4_make_59 : decode cX4_make 59 = .ok (.invokevirtual 266, 3) := by decide +kernel
theorem dX4_make_62 : decode cX4_make 62 = .ok (.aload_n 0, 1) := by decide +kernel
theorem dX4_make_63 : decode cX4_make 63 = .ok (.getfield 48, 3) := by decide +kernel
theorem dX4_make_66 : decode cX4_make 66 = .ok (.dup, 1) := by decide +kernel
theorem dX4_make_67 : decode cX4_make 67 = .ok (.getfield 229, 3) := by decide +kernel
theorem dX4_make_70 : decode cX4_make 70 = .ok (.iload_n 2, 1) := by decide +kernel
theorem dX4_make_71 : decode cX4_make 71 = .ok (.i2l, 1) := by decide +kernel
theorem dX4_make_72 : decode cX4_make 72 = .ok (.ladd, 1) := by decide +kernel
theorem dX4_make_73 : decode cX4_make 73 = .ok (.putfield 229, 3) := by decide +kernel
theorem dX4_make_76 : decode cX4_make 76 = .ok (.aload_n 0, 1) := by decide +kernel
theorem dX4_make_77 : decode cX4_make 77 = .ok (.dup, 1) := by decide +kernel
theorem dX4_make_78 : decode cX4_make 78 = .ok (.getfield 226, 3) := by decide +kernel
theorem dX4_make_81 : decode cX4_make 81 = .ok (.aload_n 0, 1) := by decide +kernel
theorem dX4_make_82 : decode cX4_make 82 = .ok (.getfield 41, 3) := by decide +kernel
theorem dX4_make_85 : decode cX4_make 85 = .ok (.iload_n 2, 1) := by decide +kernel
theorem dX4_make_86 : decode cX4_make 86 = .ok (.iconst 2, 1) := by decide +kernel
theorem dX4_make_87 : decode cX4_make 87 = .ok (.idiv, 1) := by decide +kernel
theorem dX4_make_88 : decode cX4_make 88 = .ok (.invokevirtual 270, 3) := by decide +kernel
theorem dX4_make_91 : decode cX4_make 91 = .ok (.ladd, 1) := by decide +kernel
theorem dX4_make_92 : decode cX4_make 92 = .ok (.putfield 226, 3) := by decide +kernel
theorem dX4_make_95 : decode cX4_make 95 = .ok (.return_, 1) := by decide +kernel
theorem dX4_isWithin_0 : decode cX4_isWithin 0 = .ok (.iload_n 0, 1) := by decide +kernel
theorem dX4_isWithin_1 : decode cX4_isWithin 1 = .ok (.iload_n 1, 1) := by decide +kernel
theorem dX4_isWithin_2 : decode cX4_isWithin 2 = .ok (.if_icmp .lt 12, 3) := by decide +kernel
theorem dX4_isWithin_5 : decode cX4_isWithin 5 = .ok (.iload_n 0, 1) := by decide +kernel
theorem dX4_isWithin_6 : decode cX4_isWithin 6 = .ok (.iload_n 2, 1) := by decide +kernel
theorem dX4_isWithin_7 : decode cX4_isWithin 7 = .ok (.if_icmp .gt 7, 3) := by decide +kernel
theorem dX4_isWithin_10 : decode cX4_isWithin 10 = .ok (.iconst 1, 1) := by decide +kernel
theorem dX4_isWithin_11 : decode cX4_isWithin 11 = .ok (.goto 4, 3) := by decide +kernel
theorem dX4_isWithin_14 : decode cX4_isWithin 14 = .ok (.iconst 0, 1) := by decide +kernel
theorem dX4_isWithin_15 : decode cX4_isWithin 15 = .ok (.ireturn, 1) := by decide +kernel
theorem dX4_quotient_0 : decode cX4_quotient 0 = .ok (.iload_n 1, 1) := by decide +kernel
theorem dX4_quotient_1 : decode cX4_quotient 1 = .ok (.ifCond .le 9, 3) := by decide +kernel
theorem dX4_quotient_4 : decode cX4_quotient 4 = .ok (.iload_n 0, 1) := by decide +kernel
theorem dX4_quotient_5 : decode cX4_quotient 5 = .ok (.iload_n 1, 1) := by decide +kernel
theorem dX4_quotient_6 : decode cX4_quotient 6 = .ok (.idiv, 1) := by decide +kernel
theorem dX4_quotient_7 : decode cX4_quotient 7 = .ok (.goto 4, 3) := by decide +kernel
theorem dX4_quotient_10 : decode cX4_quotient 10 = .ok (.iconst 0, 1) := by decide +kernel
theorem dX4_quotient_11 : decode cX4_quotient 11 = .ok (.ireturn, 1) := by decide +kernel
theorem dX5_init_0 : decode cX5_init 0 = .ok (.aload_n 0, 1) := by decide +kernel
theorem dX5_init_1 : decode cX5_init 1 = .ok (.invokespecial 1, 3) := by decide +kernel
theorem dX5_init_4 : decode cX5_init 4 = .ok (.aload_n 0, 1) := by decide +kernel
theorem dX5_init_5 : decode cX5_init 5 = .ok (.iconst 3, 1) := by decide +kernel
theorem dX5_init_6 : decode cX5_init 6 = .ok (.newarray .int, 2) := by decide +kernel
theorem dX5_init_8 : decode cX5_init 8 = .ok (.putfield 7, 3) := by decide +kernel
theorem dX5_init_11 : decode cX5_init 11 = .ok (.aload_n 0, 1) := by decide +kernel
theorem dX5_init_12 : decode cX5_init 12 = .ok (.bipush 10, 2) := by decide +kernel
theorem dX5_init_14 : decode cX5_init 14 = .ok (.newarray .int, 2) := by decide +kernel
theorem dX5_init_16 : decode cX5_init 16 = .ok (.putfield 13, 3) := by decide +kernel
theorem dX5_init_19 : decode cX5_init 19 = .ok (.aload_n 0, 1) := by decide +kernel
theorem dX5_init_20 : decode cX5_init 20 = .ok (.bipush 10, 2) := by decide +kernel
theorem dX5_init_22 : decode cX5_init 22 = .ok (.newarray .int, 2) := by decide +kernel
theorem dX5_init_24 : decode cX5_init 24 = .ok (.putfield 16, 3) := by decide +kernel
theorem dX5_init_27 : decode cX5_init 27 = .ok (.aload_n 0, 1) := by decide +kernel
theorem dX5_init_28 : decode cX5_init 28 = .ok (.bipush 10, 2) := by decide +kernel
theorem dX5_init_30 : decode cX5_init 30 = .ok (.newarray .int, 2) := by decide +kernel
theorem dX5_init_32 : decode cX5_init 32 = .ok (.putfield 19, 3) := by decide +kernel
theorem dX5_init_35 : decode cX5_init 35 = .ok (.aload_n 0, 1) := by decide +kernel
theorem dX5_init_36 : decode cX5_init 36 = .ok (.bipush 10, 2) := by decide +kernel
theorem dX5_init_38 : decode cX5_init 38 = .ok (.newarray .int, 2) := by decide +kernel
theorem dX5_init_40 : decode cX5_init 40 = .ok (.putfield 22, 3) := by decide +kernel
theorem dX5_init_43 : decode cX5_init 43 = .ok (.aload_n 0, 1) := by decide +kernel
theorem dX5_init_44 : decode cX5_init 44 = .ok (.sipush 600, 3) := by decide +kernel
theorem dX5_init_47 : decode cX5_init 47 = .ok (.putfield 25, 3) := by decide +kernel
theorem dX5_init_50 : decode cX5_init 50 = .ok (.aload_n 0, 1) := by decide +kernel
theorem dX5_init_51 : decode cX5_init 51 = .ok (.iconst (-1), 1) := by decide +kernel
theorem dX5_init_52 : decode cX5_init 52 = .ok (.putfield 29, 3) := by decide +kernel
theorem dX5_init_55 : decode cX5_init 55 = .ok (.aload_n 0, 1) := by decide +kernel
theorem dX5_init_56 : decode cX5_init 56 = .ok (.iconst 1, 1) := by decide +kernel
theorem dX5_init_57 : decode cX5_init 57 = .ok (.putfield 32, 3) := by decide +kernel
theorem dX5_init_60 : decode cX5_init 60 = .ok (.aload_n 0, 1) := by decide +kernel
theorem dX5_init_61 : decode cX5_init 61 = .ok (.bipush 20, 2) := by decide +kernel
theorem dX5_init_63 : decode cX5_init 63 = .ok (.putfield 36, 3) := by decide +kernel
theorem dX5_init_66 : decode cX5_init 66 = .ok (.aload_n 0, 1) := by decide +kernel
theorem dX5_init_67 : decode cX5_init 67 = .ok (.sipush 2000, 3) := by decide +kernel
theorem dX5_init_70 : decode cX5_init 70 = .ok (.putfield 39, 3) := by decide +kernel
theorem dX5_init_73 : decode cX5_init 73 = .ok (.aload_n 0, 1) := by decide +kernel
theorem dX5_init_74 : decode cX5_init 74 = .ok (.iconst 3, 1) := by decide +kernel
theorem dX5_init_75 : decode cX5_init 75 = .ok (.putfield 42, 3) := by decide +kernel
theorem dX5_init_78 : decode cX5_init 78 = .ok (.aload_n 0, 1) := by decide +kernel
theorem dX5_init_79 : decode cX5_init 79 = .ok (.iconst 5, 1) := by decide +kernel
theorem dX5_init_80 : decode cX5_init 80 = .ok (.putfield 45, 3) := by decide +kernel
theorem dX5_init_83 : decode cX5_init 83 = .ok (.return_, 1) := by decide +kernel
theorem dX5_broke_0 : decode cX5_broke 0 = .ok (.aload_n 0, 1) := by decide +kernel
theorem dX5_broke_1 : decode cX5_broke 1 = .ok (.getfield 48, 3) := by decide +kernel
theorem dX5_broke_4 : decode cX5_broke 4 = .ok (.aload_n 0, 1) := by decide +kernel
theorem dX5_broke_5 : decode cX5_broke 5 = .ok (.getfield 52, 3) := by decide +kernel
theorem dX5_broke_8 : decode cX5_broke 8 = .ok (.lsub, 1) := by decide +kernel
theorem dX5_broke_9 : decode cX5_broke 9 = .ok (.aload_n 0, 1) := by decide +kernel
theorem dX5_broke_10 : decode cX5_broke 10 = .ok (.getfield 55, 3) := by decide +kernel
theorem dX5_broke_13 : decode cX5_broke 13 = .ok (.lsub, 1) := by decide +kernel
theorem dX5_broke_14 : decode cX5_broke 14 = .ok (.l2i, 1) := by decide +kernel
theorem dX5_broke_15 : decode cX5_broke 15 = .ok (.ireturn, 1) := by decide +kernel
set_option maxRecDepth 20000 in
theorem ggX5_cutOf_L_best : GoodIn wsX5_cutOf wsL_best := goodIn_r _ [9, 1, 10, 11, 12, 13] (by decide +kernel) (by decide +kernel)
set_option maxRecDepth 20000 in
theorem gX5_cutOf_L_best_n61 : GoodIn wsX5_cutOf (wsL_best) := ggX5_cutOf_L_best
theorem dX5_cutOf_0 : decode cX5_cutOf 0 = .ok (.bipush 10, 2) := by decide +kernel
theorem dX5_cutOf_2 : decode cX5_cutOf 2 = .ok (.newarray .int, 2) := by decide +kernel
theorem dX5_cutOf_4 : decode cX5_cutOf 4 = .ok (.astore_n 2, 1) := by decide +kernel
theorem dX5_cutOf_5 : decode cX5_cutOf 5 = .ok (.bipush 10, 2) := by decide +kernel
theorem dX5_cutOf_7 : decode cX5_cutOf 7 = .ok (.newarray .int, 2) := by decide +kernel
theorem dX5_cutOf_9 : decode cX5_cutOf 9 = .ok (.astore_n 3, 1) := by decide +kernel
theorem dX5_cutOf_10 : decode cX5_cutOf 10 = .ok (.bipush 10, 2) := by decide +kernel
theorem dX5_cutOf_12 : decode cX5_cutOf 12 = .ok (.newarray .int, 2) := by decide +kernel
theorem dX5_cutOf_14 : decode cX5_cutOf 14 = .ok (.astore 4, 2) := by decide +kernel
theorem dX5_cutOf_16 : decode cX5_cutOf 16 = .ok (.iconst 0, 1) := by decide +kernel
theorem dX5_cutOf_17 : decode cX5_cutOf 17 = .ok (.istore 5, 2) := by decide +kernel
theorem dX5_cutOf_19 : decode cX5_cutOf 19 = .ok (.iconst 0, 1) := by decide +kernel
theorem dX5_cutOf_20 : decode cX5_cutOf 20 = .ok (.istore 6, 2) := by decide +kernel
theorem dX5_cutOf_22 : decode cX5_cutOf 22 = .ok (.iload 6, 2) := by decide +kernel
theorem dX5_cutOf_24 : decode cX5_cutOf 24 = .ok (.aload_n 0, 1) := by decide +kernel
theorem dX5_cutOf_25 : decode cX5_cutOf 25 = .ok (.getfield 58, 3) := by decide +kernel
theorem dX5_cutOf_28 : decode cX5_cutOf 28 = .ok (.if_icmp .ge 62, 3) := by decide +kernel
theorem dX5_cutOf_31 : decode cX5_cutOf 31 = .ok (.aload_n 0, 1) := by decide +kernel
theorem dX5_cutOf_32 : decode cX5_cutOf 32 = .ok (.getfield 13, 3) := by decide +kernel
theorem dX5_cutOf_35 : decode cX5_cutOf 35 = .ok (.iload 6, 2) := by decide +kernel
theorem dX5_cutOf_37 : decode cX5_cutOf 37 = .ok (.iaload, 1) := by decide +kernel
theorem dX5_cutOf_38 : decode cX5_cutOf 38 = .ok (.iload_n 1, 1) := by decide +kernel
theorem dX5_cutOf_39 : decode cX5_cutOf 39 = .ok (.if_icmp .ne 45, 3) := by decide +kernel
theorem dX5_cutOf_42 : decode cX5_cutOf 42 = .ok (.aload_n 0, 1) := by decide +kernel
theorem dX5_cutOf_43 : decode cX5_cutOf 43 = .ok (.getfield 19, 3) := by decide +kernel
theorem dX5_cutOf_46 : decode cX5_cutOf 46 = .ok (.iload 6, 2) := by decide +kernel
theorem dX5_cutOf_48 : decode cX5_cutOf 48 = .ok (.iaload, 1) := by decide +kernel
theorem dX5_cutOf_49 : decode cX5_cutOf 49 = .ok (.ifCond .le 35, 3) := by decide +kernel
theorem dX5_cutOf_52 : decode cX5_cutOf 52 = .ok (.aload_n 2, 1) := by decide +kernel
theorem dX5_cutOf_53 : decode cX5_cutOf 53 = .ok (.iload 5, 2) := by decide +kernel
theorem dX5_cutOf_55 : decode cX5_cutOf 55 = .ok (.aload_n 0, 1) := by decide +kernel
theorem dX5_cutOf_56 : decode cX5_cutOf 56 = .ok (.getfield 16, 3) := by decide +kernel
theorem dX5_cutOf_59 : decode cX5_cutOf 59 = .ok (.iload 6, 2) := by decide +kernel
theorem dX5_cutOf_61 : decode cX5_cutOf 61 = .ok (.iaload, 1) := by decide +kernel
theorem dX5_cutOf_62 : decode cX5_cutOf 62 = .ok (.iastore, 1) := by decide +kernel
theorem dX5_cutOf_63 : decode cX5_cutOf 63 = .ok (.aload_n 3, 1) := by decide +kernel
theorem dX5_cutOf_64 : decode cX5_cutOf 64 = .ok (.iload 5, 2) := by decide +kernel
theorem dX5_cutOf_66 : decode cX5_cutOf 66 = .ok (.aload_n 0, 1) := by decide +kernel
theorem dX5_cutOf_67 : decode cX5_cutOf 67 = .ok (.getfield 19, 3) := by decide +kernel
theorem dX5_cutOf_70 : decode cX5_cutOf 70 = .ok (.iload 6, 2) := by decide +kernel
theorem dX5_cutOf_72 : decode cX5_cutOf 72 = .ok (.iaload, 1) := by decide +kernel
theorem dX5_cutOf_73 : decode cX5_cutOf 73 = .ok (.iastore, 1) := by decide +kernel
theorem dX5_cutOf_74 : decode cX5_cutOf 74 = .ok (.aload 4, 2) := by decide +kernel
theorem dX5_cutOf_76 : decode cX5_cutOf 76 = .ok (.iload 5, 2) := by decide +kernel
theorem dX5_cutOf_78 : decode cX5_cutOf 78 = .ok (.iinc 5 1, 3) := by decide +kernel
theorem dX5_cutOf_81 : decode cX5_cutOf 81 = .ok (.iload 6, 2) := by decide +kernel
theorem dX5_cutOf_83 : decode cX5_cutOf 83 = .ok (.iastore, 1) := by decide +kernel
theorem dX5_cutOf_84 : decode cX5_cutOf 84 = .ok (.iinc 6 1, 3) := by decide +kernel
theorem dX5_cutOf_87 : decode cX5_cutOf 87 = .ok (.goto (-65), 3) := by decide +kernel
theorem dX5_cutOf_90 : decode cX5_cutOf 90 = .ok (.bipush 10, 2) := by decide +kernel
theorem dX5_cutOf_92 : decode cX5_cutOf 92 = .ok (.newarray .int, 2) := by decide +kernel
theorem dX5_cutOf_94 : decode cX5_cutOf 94 = .ok (.astore 6, 2) := by decide +kernel
theorem dX5_cutOf_96 : decode cX5_cutOf 96 = .ok (.aload_n 2, 1) := by decide +kernel
theorem dX5_cutOf_97 : decode cX5_cutOf 97 = .ok (.aload_n 3, 1) := by decide +kernel
theorem dX5_cutOf_98 : decode cX5_cutOf 98 = .ok (.iload 5, 2) := by decide +kernel
theorem dX5_cutOf_100 : decode cX5_cutOf 100 = .ok (.aload_n 0, 1) := by decide +kernel
theorem dX5_cutOf_101 : decode cX5_cutOf 101 = .ok (.getfield 25, 3) := by decide +kernel
theorem dX5_cutOf_104 : decode cX5_cutOf 104 = .ok (.invokestatic 61, 3) := by decide +kernel
theorem dX5_cutOf_107 : decode cX5_cutOf 107 = .ok (.astore 7, 2) := by decide +kernel
theorem dX5_cutOf_109 : decode cX5_cutOf 109 = .ok (.iconst 0, 1) := by decide +kernel
theorem dX5_cutOf_110 : decode cX5_cutOf 110 = .ok (.istore 8, 2) := by decide +kernel
theorem dX5_cutOf_112 : decode cX5_cutOf 112 = .ok (.iload 8, 2) := by decide +kernel
theorem dX5_cutOf_114 : decode cX5_cutOf 114 = .ok (.iload 5, 2) := by decide +kernel
theorem dX5_cutOf_116 : decode cX5_cutOf 116 = .ok (.if_icmp .ge 22, 3) := by decide +kernel
theorem dX5_cutOf_119 : decode cX5_cutOf 119 = .ok (.aload 6, 2) := by decide +kernel
theorem dX5_cutOf_121 : decode cX5_cutOf 121 = .ok (.aload 4, 2) := by decide +kernel
theorem dX5_cutOf_123 : decode cX5_cutOf 123 = .ok (.iload 8, 2) := by decide +kernel
theorem dX5_cutOf_125 : decode cX5_cutOf 125 = .ok (.iaload, 1) := by decide +kernel
theorem dX5_cutOf_126 : decode cX5_cutOf 126 = .ok (.aload 7, 2) := by decide +kernel
theorem dX5_cutOf_128 : decode cX5_cutOf 128 = .ok (.iload 8, 2) := by decide +kernel
theorem dX5_cutOf_130 : decode cX5_cutOf 130 = .ok (.iaload, 1) := by decide +kernel
theorem dX5_cutOf_131 : decode cX5_cutOf 131 = .ok (.iastore, 1) := by decide +kernel
theorem dX5_cutOf_132 : decode cX5_cutOf 132 = .ok (.iinc 8 1, 3) := by decide +kernel
theorem dX5_cutOf_135 : decode cX5_cutOf 135 = .ok (.goto (-23), 3) := by decide +kernel
theorem dX5_cutOf_138 : decode cX5_cutOf 138 = .ok (.aload 6, 2) := by decide +kernel
theorem dX5_cutOf_140 : decode cX5_cutOf 140 = .ok (.areturn, 1) := by decide +kernel
theorem dX5_sumOf_0 : decode cX5_sumOf 0 = .ok (.iconst 0, 1) := by decide +kernel
theorem dX5_sumOf_1 : decode cX5_sumOf 1 = .ok (.istore_n 2, 1) := by decide +kernel
theorem dX5_sumOf_2 : decode cX5_sumOf 2 = .ok (.iconst 0, 1) := by decide +kernel
theorem dX5_sumOf_3 : decode cX5_sumOf 3 = .ok (.istore_n 3, 1) := by decide +kernel
theorem dX5_sumOf_4 : decode cX5_sumOf 4 = .ok (.iload_n 3, 1) := by decide +kernel
theorem dX5_sumOf_5 : decode cX5_sumOf 5 = .ok (.aload_n 0, 1) := by decide +kernel
theorem dX5_sumOf_6 : decode cX5_sumOf 6 = .ok (.getfield 58, 3) := by decide +kernel
theorem dX5_sumOf_9 : decode cX5_sumOf 9 = .ok (.if_icmp .ge 22, 3) := by decide +kernel
theorem dX5_sumOf_12 : decode cX5_sumOf 12 = .ok (.iload_n 2, 1) := by decide +kernel
theorem dX5_sumOf_13 : decode cX5_sumOf 13 = .ok (.aload_n 1, 1) := by decide +kernel
theorem dX5_sumOf_14 : decode cX5_sumOf 14 = .ok (.iload_n 3, 1) := by decide +kernel
theorem dX5_sumOf_15 : decode cX5_sumOf 15 = .ok (.iaload, 1) := by decide +kernel
theorem dX5_sumOf_16 : decode cX5_sumOf 16 = .ok (.aload_n 0, 1) := by decide +kernel
theorem dX5_sumOf_17 : decode cX5_sumOf 17 = .ok (.getfield 16, 3) := by decide +kernel
theorem dX5_sumOf_20 : decode cX5_sumOf 20 = .ok (.iload_n 3, 1) := by decide +kernel
theorem dX5_sumOf_21 : decode cX5_sumOf 21 = .ok (.iaload, 1) := by decide +kernel
theorem dX5_sumOf_22 : decode cX5_sumOf 22 = .ok (.imul, 1) := by decide +kernel
theorem dX5_sumOf_23 : decode cX5_sumOf 23 = .ok (.iadd, 1) := by decide +kernel
theorem dX5_sumOf_24 : decode cX5_sumOf 24 = .ok (.istore_n 2, 1) := by decide +kernel
theorem dX5_sumOf_25 : decode cX5_sumOf 25 = .ok (.iinc 3 1, 3) := by decide +kernel
theorem dX5_sumOf_28 : decode cX5_sumOf 28 = .ok (.goto (-24), 3) := by decide +kernel
theorem dX5_sumOf_31 : decode cX5_sumOf 31 = .ok (.iload_n 2, 1) := by decide +kernel
theorem dX5_sumOf_32 : decode cX5_sumOf 32 = .ok (.ireturn, 1) := by decide +kernel
set_option maxRecDepth 20000 in
theorem ggX5_makes_X5_broke : GoodIn wsX5_makes wsX5_broke := goodIn_r _ [24, 11, 12, 10, 25, 26, 27, 28, 29, 30, 31, 32, 33, 34, 35, 36, 37, 38, 39, 40, 41, 42, 43, 44, 45, 46, 47] (by decide +kernel) (by decide +kernel)
set_option maxRecDepth 20000 in
theorem gX5_makes_X5_broke : GoodIn wsX5_makes (wsV RX5 67 RX5 yX5_broke wsX5_broke) := goodIn_app (goodIn_of _ (by decide +kernel)) ggX5_makes_X5_broke
theorem dX5_makes_0 : decode cX5_makes 0 = .ok (.aload_n 0, 1) := by decide +kernel
theorem dX5_makes_1 : decode cX5_makes 1 = .ok (.getfield 7, 3) := by decide +kernel
theorem dX5_makes_4 : decode cX5_makes 4 = .ok (.aload_n 0, 1) := by decide +kernel
theorem dX5_makes_5 : decode cX5_makes 5 = .ok (.getfield 29, 3) := by decide +kernel
theorem dX5_makes_8 : decode cX5_makes 8 = .ok (.iaload, 1) := by decide +kernel
theorem dX5_makes_9 : decode cX5_makes 9 = .ok (.aload_n 0, 1) := by decide +kernel
theorem dX5_makes_10 : decode cX5_makes 10 = .ok (.getfield 25, 3) := by decide +kernel
theorem dX5_makes_13 : decode cX5_makes 13 = .ok (.imul, 1) := by decide +kernel
theorem dX5_makes_14 : decode cX5_makes 14 = .ok (.bipush 10, 2) := by decide +kernel
theorem dX5_makes_16 : decode cX5_makes 16 = .ok (.idiv, 1) := by decide +kernel
theorem dX5_makes_17 : decode cX5_makes 17 = .ok (.istore_n 3, 1) := by decide +kernel
theorem dX5_makes_18 : decode cX5_makes 18 = .ok (.iload_n 3, 1) := by decide +kernel
theorem dX5_makes_19 : decode cX5_makes 19 = .ok (.bipush 50, 2) := by decide +kernel
theorem dX5_makes_21 : decode cX5_makes 21 = .ok (.idiv, 1) := by decide +kernel
theorem dX5_makes_22 : decode cX5_makes 22 = .ok (.istore 4, 2) := by decide +kernel
theorem dX5_makes_24 : decode cX5_makes 24 = .ok (.aload_n 0, 1) := by decide +kernel
theorem dX5_makes_25 : decode cX5_makes 25 = .ok (.invokevirtual 67, 3) := by decide +kernel
theorem dX5_makes_28 : decode cX5_makes 28 = .ok (.iload_n 3, 1) := by decide +kernel
theorem dX5_makes_29 : decode cX5_makes 29 = .ok (.iload 4, 2) := by decide +kernel
theorem dX5_makes_31 : decode cX5_makes 31 = .ok (.iadd, 1) := by decide +kernel
theorem dX5_makes_32 : decode cX5_makes 32 = .ok (.aload_n 0, 1) := by decide +kernel
theorem dX5_makes_33 : decode cX5_makes 33 = .ok (.getfield 36, 3) := by decide +kernel
theorem dX5_makes_36 : decode cX5_makes 36 = .ok (.imul, 1) := by decide +kernel
theorem dX5_makes_37 : decode cX5_makes 37 = .ok (.bipush 100, 2) := by decide +kernel
theorem dX5_makes_39 : decode cX5_makes 39 = .ok (.idiv, 1) := by decide +kernel
theorem dX5_makes_40 : decode cX5_makes 40 = .ok (.invokestatic 71, 3) := by decide +kernel
theorem dX5_makes_43 : decode cX5_makes 43 = .ok (.istore 5, 2) := by decide +kernel
theorem dX5_makes_45 : decode cX5_makes 45 = .ok (.aload_n 0, 1) := by decide +kernel
theorem dX5_makes_46 : decode cX5_makes 46 = .ok (.dup, 1) := by decide +kernel
theorem dX5_makes_47 : decode cX5_makes 47 = .ok (.getfield 77, 3) := by decide +kernel
theorem dX5_makes_50 : decode cX5_makes 50 = .ok (.iload_n 3, 1) := by decide +kernel
theorem dX5_makes_51 : decode cX5_makes 51 = .ok (.i2l, 1) := by decide +kernel
theorem dX5_makes_52 : decode cX5_makes 52 = .ok (.ladd, 1) := by decide +kernel
theorem dX5_makes_53 : decode cX5_makes 53 = .ok (.putfield 77, 3) := by decide +kernel
theorem dX5_makes_56 : decode cX5_makes 56 = .ok (.aload_n 0, 1) := by decide +kernel
theorem dX5_makes_57 : decode cX5_makes 57 = .ok (.dup, 1) := by decide +kernel
theorem dX5_makes_58 : decode cX5_makes 58 = .ok (.getfield 55, 3) := by decide +kernel
theorem dX5_makes_61 : decode cX5_makes 61 = .ok (.iload 4, 2) := by decide +kernel
theorem dX5_makes_63 : decode cX5_makes 63 = .ok (.i2l, 1) := by decide +kernel
theorem dX5_makes_64 : decode cX5_makes 64 = .ok (.ladd, 1) := by decide +kernel
theorem dX5_makes_65 : decode cX5_makes 65 = .ok (.putfield 55, 3) := by decide +kernel
theorem dX5_makes_68 : decode cX5_makes 68 = .ok (.aload_n 0, 1) := by decide +kernel
theorem dX5_makes_69 : decode cX5_makes 69 = .ok (.dup, 1) := by decide +kernel
theorem dX5_makes_70 : decode cX5_makes 70 = .ok (.getfield 48, 3) := by decide +kernel
theorem dX5_makes_73 : decode cX5_makes 73 = .ok (.iload_n 3, 1) := by decide +kernel
theorem dX5_makes_74 : decode cX5_makes 74 = .ok (.iload 4, 2) := by decide +kernel
theorem dX5_makes_76 : decode cX5_makes 76 = .ok (.iadd, 1) := by decide +kernel
theorem dX5_makes_77 : decode cX5_makes 77 = .ok (.iload 5, 2) := by decide +kernel
theorem dX5_makes_79 : decode cX5_makes 79 = .ok (.isub, 1) := by decide +kernel
theorem dX5_makes_80 : decode cX5_makes 80 = .ok (.i2l, 1) := by decide +kernel
theorem dX5_makes_81 : decode cX5_makes 81 = .ok (.ladd, 1) := by decide +kernel
theorem dX5_makes_82 : decode cX5_makes 82 = .ok (.putfield 48, 3) := by decide +kernel
theorem dX5_makes_85 : decode cX5_makes 85 = .ok (.aload_n 0, 1) := by decide +kernel
theorem dX5_makes_86 : decode cX5_makes 86 = .ok (.dup, 1) := by decide +kernel
theorem dX5_makes_87 : decode cX5_makes 87 = .ok (.getfield 52, 3) := by decide +kernel
theorem dX5_makes_90 : decode cX5_makes 90 = .ok (.iload_n 2, 1) := by decide +kernel
theorem dX5_makes_91 : decode cX5_makes 91 = .ok (.ifCond .eq 17, 3) := by decide +kernel
theorem dX5_makes_94 : decode cX5_makes 94 = .ok (.iload_n 3, 1) := by decide +kernel
theorem dX5_makes_95 : decode cX5_makes 95 = .ok (.iload_n 3, 1) := by decide +kernel
theorem dX5_makes_96 : decode cX5_makes 96 = .ok (.iload_n 1, 1) := by decide +kernel
theorem dX5_makes_97 : decode cX5_makes 97 = .ok (.imul, 1) := by decide +kernel
theorem dX5_makes_98 : decode cX5_makes 98 = .ok (.aload_n 0, 1) := by decide +kernel
theorem dX5_makes_99 : decode cX5_makes 99 = .ok (.getfield 25, 3) := by decide +kernel
theorem dX5_makes_102 : decode cX5_makes 102 = .ok (.idiv, 1) := by decide +kernel
theorem dX5_makes_103 : decode cX5_makes 103 = .ok (.isub, 1) := by decide +kernel
theorem dX5_makes_104 : decode cX5_makes 104 = .ok (.i2l, 1) := by decide +kernel
theorem dX5_makes_105 : decode cX5_makes 105 = .ok (.goto 4, 3) := by decide +kernel
theorem dX5_makes_108 : decode cX5_makes 108 = .ok (.lconst 0, 1) := by decide +kernel
theorem dX5_makes_109 : decode cX5_makes 109 = .ok (.ladd, 1) := by decide +kernel
theorem dX5_makes_110 : decode cX5_makes 110 = .ok (.putfield 52, 3) := by decide +kernel
theorem dX5_makes_113 : decode cX5_makes 113 = .ok (.aload_n 0, 1) := by decide +kernel
theorem dX5_makes_114 : decode cX5_makes 114 = .ok (.dup, 1) := by decide +kernel
theorem dX5_makes_115 : decode cX5_makes 115 = .ok (.getfield 80, 3) := by decide +kernel
theorem dX5_makes_118 : decode cX5_makes 118 = .ok (.aload_n 0, 1) := by decide +kernel
theorem dX5_makes_119 : decode cX5_makes 119 = .ok (.getfield 39, 3) := by decide +kernel
theorem dX5_makes_122 : decode cX5_makes 122 = .ok (.iload_n 3, 1) := by decide +kernel
theorem dX5_makes_123 : decode cX5_makes 123 = .ok (.iconst 2, 1) := by decide +kernel
theorem dX5_makes_124 : decode cX5_makes 124 = .ok (.idiv, 1) := by decide +kernel
theorem dX5_makes_125 : decode cX5_makes 125 = .ok (.invokestatic 71, 3) := by decide +kernel
theorem dX5_makes_128 : decode cX5_makes 128 = .ok (.aload_n 0, 1) := by decide +kernel
theorem dX5_makes_129 : decode cX5_makes 129 = .ok (.getfield 42, 3) := by decide +kernel
theorem dX5_makes_132 : decode cX5_makes 132 = .ok (.imul, 1) := by decide +kernel
theorem dX5_makes_133 : decode cX5_makes 133 = .ok (.iconst 0, 1) := by decide +kernel
theorem dX5_makes_134 : decode cX5_makes 134 = .ok (.iload_n 3, 1) := by decide +kernel
theorem dX5_makes_135 : decode cX5_makes 135 = .ok (.iconst 2, 1) := by decide +kernel
theorem dX5_makes_136 : decode cX5_makes 136 = .ok (.idiv, 1) := by decide +kernel
theorem dX5_makes_137 : decode cX5_makes 137 = .ok (.aload_n 0, 1) := by decide +kernel
theorem dX5_makes_138 : decode cX5_makes 138 = .ok (.getfield 39, 3) := by decide +kernel
theorem dX5_makes_141 : decode cX5_makes 141 = .ok (.isub, 1) := by decide +kernel
theorem dX5_makes_142 : decode cX5_makes 142 = .ok (.invokestatic 83, 3) := by decide +kernel
theorem dX5_makes_145 : decode cX5_makes 145 = .ok (.aload_n 0, 1) := by decide +kernel
theorem dX5_makes_146 : decode cX5_makes 146 = .ok (.getfield 45, 3) := by decide +kernel
theorem dX5_makes_149 : decode cX5_makes 149 = .ok (.imul, 1) := by decide +kernel
theorem dX5_makes_150 : decode cX5_makes 150 = .ok (.iadd, 1) := by decide +kernel
theorem dX5_makes_151 : decode cX5_makes 151 = .ok (.i2l, 1) := by decide +kernel
theorem dX5_makes_152 : decode cX5_makes 152 = .ok (.ladd, 1) := by decide +kernel
theorem dX5_makes_153 : decode cX5_makes 153 = .ok (.putfield 80, 3) := by decide +kernel
theorem dX5_makes_156 : decode cX5_makes 156 = .ok (.return_, 1) := by decide +kernel
set_option maxRecDepth 20000 in
theorem ggX5_passes_X5_makes : GoodIn wsX5_passes wsX5_makes := goodIn_r _ [15, 16, 3, 5, 17, 18, 19, 20, 21, 22, 23, 24, 25, 26, 27, 28, 29, 30, 31, 32, 33, 34, 35, 14, 36, 52, 53, 54, 55, 56, 57, 58, 59, 60, 61, 62, 63, 64, 65, 66, 67, 68, 69, 70, 71, 72, 73, 74] (by decide +kernel) (by decide +kernel)
set_option maxRecDepth 20000 in
theorem gX5_passes_X5_makes : GoodIn wsX5_passes (wsV RX5 96 RX5 yX5_makes wsX5_makes) := goodIn_app (goodIn_of _ (by decide +kernel)) ggX5_passes_X5_makes
set_option maxRecDepth 20000 in
theorem ggX5_passes_X5_cutOf : GoodIn wsX5_passes wsX5_cutOf := goodIn_r _ [40, 41, 6, 42, 8, 43, 5, 44, 45, 46, 47, 19, 20, 21, 52, 53, 54, 55, 56, 57, 58, 59, 60, 61, 62, 63, 64, 65, 66, 67, 68, 69, 70, 71, 72, 73, 74] (by decide +kernel) (by decide +kernel)
set_option maxRecDepth 20000 in
theorem gX5_passes_X5_cutOf : GoodIn wsX5_passes (wsV RX5 100 RX5 yX5_cutOf wsX5_cutOf) := goodIn_app (goodIn_of _ (by decide +kernel)) ggX5_passes_X5_cutOf
set_option maxRecDepth 20000 in
theorem ggX5_passes_X5_sumOf : GoodIn wsX5_passes wsX5_sumOf := goodIn_r _ [51, 6, 43, 52, 53, 54, 55, 56, 57, 58, 59, 60, 61, 62, 63, 64, 65, 66, 67, 68, 69, 70, 71, 72, 73, 74] (by decide +kernel) (by decide +kernel)
set_option maxRecDepth 20000 in
theorem gX5_passes_X5_sumOf : GoodIn wsX5_passes (wsV RX5 104 RX5 yX5_sumOf wsX5_sumOf) := goodIn_app (goodIn_of _ (by decide +kernel)) ggX5_passes_X5_sumOf
theorem dX5_passes_0 : decode cX5_passes 0 = .ok (.aload_n 0, 1) := by decide +kernel
theorem dX5_passes_1 : decode cX5_passes 1 = .ok (.dup, 1) := by decide +kernel
theorem dX5_passes_2 : decode cX5_passes 2 = .ok (.getfield 86, 3) := by decide +kernel
theorem dX5_passes_5 : decode cX5_passes 5 = .ok (.iconst 1, 1) := by decide +kernel
theorem dX5_passes_6 : decode cX5_passes 6 = .ok (.iadd, 1) := by decide +kernel
theorem dX5_passes_7 : decode cX5_passes 7 = .ok (.putfield 86, 3) := by decide +kernel
theorem dX5_passes_10 : decode cX5_passes 10 = .ok (.aload_n 0, 1) := by decide +kernel
theorem dX5_passes_11 : decode cX5_passes 11 = .ok (.bipush 110, 2) := by decide +kernel
theorem dX5_passes_13 : decode cX5_passes 13 = .ok (.putfield 89, 3) := by decide +kernel
theorem dX5_passes_16 : decode cX5_passes 16 = .ok (.aload_n 0, 1) := by decide +kernel
theorem dX5_passes_17 : decode cX5_passes 17 = .ok (.getfield 29, 3) := by decide +kernel
theorem dX5_passes_20 : decode cX5_passes 20 = .ok (.ifCond .ge 5, 3) := by decide +kernel
theorem dX5_passes_23 : decode cX5_passes 23 = .ok (.iconst 0, 1) := by decide +kernel
theorem dX5_passes_24 : decode cX5_passes 24 = .ok (.ireturn, 1) := by decide +kernel
theorem dX5_passes_25 : decode cX5_passes 25 = .ok (.aload_n 0, 1) := by decide +kernel
theorem dX5_passes_26 : decode cX5_passes 26 = .ok (.getfield 93, 3) := by decide +kernel
theorem dX5_passes_29 : decode cX5_passes 29 = .ok (.ifCond .le 27, 3) := by decide +kernel
theorem dX5_passes_32 : decode cX5_passes 32 = .ok (.aload_n 0, 1) := by decide +kernel
theorem dX5_passes_33 : decode cX5_passes 33 = .ok (.dup, 1) := by decide +kernel
theorem dX5_passes_34 : decode cX5_passes 34 = .ok (.getfield 93, 3) := by decide +kernel
theorem dX5_passes_37 : decode cX5_passes 37 = .ok (.iconst 1, 1) := by decide +kernel
theorem dX5_passes_38 : decode cX5_passes 38 = .ok (.isub, 1) := by decide +kernel
theorem dX5_passes_39 : decode cX5_passes 39 = .ok (.putfield 93, 3) := by decide +kernel
theorem dX5_passes_42 : decode cX5_passes 42 = .ok (.aload_n 0, 1) := by decide +kernel
theorem dX5_passes_43 : decode cX5_passes 43 = .ok (.bipush 99, 2) := by decide +kernel
theorem dX5_passes_45 : decode cX5_passes 45 = .ok (.putfield 89, 3) := by decide +kernel
theorem dX5_passes_48 : decode cX5_passes 48 = .ok (.aload_n 0, 1) := by decide +kernel
theorem dX5_passes_49 : decode cX5_passes 49 = .ok (.iconst 0, 1) := by decide +kernel
theorem dX5_passes_50 : decode cX5_passes 50 = .ok (.iconst 0, 1) := by decide +kernel
theorem dX5_passes_51 : decode cX5_passes 51 = .ok (.invokevirtual 96, 3) := by decide +kernel
theorem dX5_passes_54 : decode cX5_passes 54 = .ok (.iconst 0, 1) := by decide +kernel
theorem dX5_passes_55 : decode cX5_passes 55 = .ok (.ireturn, 1) := by decide +kernel
theorem dX5_passes_56 : decode cX5_passes 56 = .ok (.aload_n 0, 1) := by decide +kernel
theorem dX5_passes_57 : decode cX5_passes 57 = .ok (.aload_n 0, 1) := by decide +kernel
theorem dX5_passes_58 : decode cX5_passes 58 = .ok (.getfield 29, 3) := by decide +kernel
theorem dX5_passes_61 : decode cX5_passes 61 = .ok (.invokevirtual 100, 3) := by decide +kernel
theorem dX5_passes_64 : decode cX5_passes 64 = .ok (.astore_n 1, 1) := by decide +kernel
theorem dX5_passes_65 : decode cX5_passes 65 = .ok (.iconst 0, 1) := by decide +kernel
theorem dX5_passes_66 : decode cX5_passes 66 = .ok (.istore_n 2, 1) := by decide +kernel
theorem dX5_passes_67 : decode cX5_passes 67 = .ok (.aload_n 0, 1) := by decide +kernel
theorem dX5_passes_68 : decode cX5_passes 68 = .ok (.getfield 25, 3) := by decide +kernel
theorem dX5_passes_71 : decode cX5_passes 71 = .ok (.aload_n 0, 1) := by decide +kernel
theorem dX5_passes_72 : decode cX5_passes 72 = .ok (.aload_n 1, 1) := by decide +kernel
theorem dX5_passes_73 : decode cX5_passes 73 = .ok (.invokevirtual 104, 3) := by decide +kernel
theorem dX5_passes_76 : decode cX5_passes 76 = .ok (.isub, 1) := by decide +kernel
theorem dX5_passes_77 : decode cX5_passes 77 = .ok (.istore_n 3, 1) := by decide +kernel
theorem dX5_passes_78 : decode cX5_passes 78 = .ok (.iconst 0, 1) := by decide +kernel
theorem dX5_passes_79 : decode cX5_passes 79 = .ok (.istore 4, 2) := by decide +kernel
theorem dX5_passes_81 : decode cX5_passes 81 = .ok (.iload 4, 2) := by decide +kernel
theorem dX5_passes_83 : decode cX5_passes 83 = .ok (.aload_n 0, 1) := by decide +kernel
theorem dX5_passes_84 : decode cX5_passes 84 = .ok (.getfield 58, 3) := by decide +kernel
theorem dX5_passes_87 : decode cX5_passes 87 = .ok (.if_icmp .ge 44, 3) := by decide +kernel
theorem dX5_passes_90 : decode cX5_passes 90 = .ok (.iload_n 2, 1) := by decide +kernel
theorem dX5_passes_91 : decode cX5_passes 91 = .ok (.aload_n 1, 1) := by decide +kernel
theorem dX5_passes_92 : decode cX5_passes 92 = .ok (.iload 4, 2) := by decide +kernel
theorem dX5_passes_94 : decode cX5_passes 94 = .ok (.iaload, 1) := by decide +kernel
theorem dX5_passes_95 : decode cX5_passes 95 = .ok (.iadd, 1) := by decide +kernel
theorem dX5_passes_96 : decode cX5_passes 96 = .ok (.istore_n 2, 1) := by decide +kernel
theorem dX5_passes_97 : decode cX5_passes 97 = .ok (.aload_n 0, 1) := by decide +kernel
theorem dX5_passes_98 : decode cX5_passes 98 = .ok (.getfield 22, 3) := by decide +kernel
theorem dX5_passes_101 : decode cX5_passes 101 = .ok (.iload 4, 2) := by decide +kernel
theorem dX5_passes_103 : decode cX5_passes 103 = .ok (.dup2, 1) := by decide +kernel
theorem dX5_passes_104 : decode cX5_passes 104 = .ok (.iaload, 1) := by decide +kernel
theorem dX5_passes_105 : decode cX5_passes 105 = .ok (.aload_n 1, 1) := by decide +kernel
theorem dX5_passes_106 : decode cX5_passes 106 = .ok (.iload 4, 2) := by decide +kernel
theorem dX5_passes_108 : decode cX5_passes 108 = .ok (.iaload, 1) := by decide +kernel
theorem dX5_passes_109 : decode cX5_passes 109 = .ok (.iadd, 1) := by decide +kernel
theorem dX5_passes_110 : decode cX5_passes 110 = .ok (.iastore, 1) := by decide +kernel
theorem dX5_passes_111 : decode cX5_passes 111 = .ok (.aload_n 0, 1) := by decide +kernel
theorem dX5_passes_112 : decode cX5_passes 112 = .ok (.getfield 19, 3) := by decide +kernel
theorem dX5_passes_115 : decode cX5_passes 115 = .ok (.iload 4, 2) := by decide +kernel
theorem dX5_passes_117 : decode cX5_passes 117 = .ok (.dup2, 1) := by decide +kernel
theorem dX5_passes_118 : decode cX5_passes 118 = .ok (.iaload, 1) := by decide +kernel
theorem dX5_passes_119 : decode cX5_passes 119 = .ok (.aload_n 1, 1) := by decide +kernel
theorem dX5_passes_120 : decode cX5_passes 120 = .ok (.iload 4, 2) := by decide +kernel
theorem dX5_passes_122 : decode cX5_passes 122 = .ok (.iaload, 1) := by decide +kernel
theorem dX5_passes_123 : decode cX5_passes 123 = .ok (.isub, 1) := by decide +kernel
theorem dX5_passes_124 : decode cX5_passes 124 = .ok (.iastore, 1) := by decide +kernel
theorem dX5_passes_125 : decode cX5_passes 125 = .ok (.iinc 4 1, 3) := by decide +kernel
theorem dX5_passes_128 : decode cX5_passes 128 = .ok (.goto (-47), 3) := by decide +kernel
theorem dX5_passes_131 : decode cX5_passes 131 = .ok (.iload_n 2, 1) := by decide +kernel
theorem dX5_passes_132 : decode cX5_passes 132 = .ok (.ifCond .le 35, 3) := by decide +kernel
theorem dX5_passes_135 : decode cX5_passes 135 = .ok (.aload_n 0, 1) := by decide +kernel
theorem dX5_passes_136 : decode cX5_passes 136 = .ok (.bipush 112, 2) := by decide +kernel
theorem dX5_passes_138 : decode cX5_passes 138 = .ok (.putfield 89, 3) := by decide +kernel
theorem dX5_passes_141 : decode cX5_passes 141 = .ok (.aload_n 0, 1) := by decide +kernel
theorem dX5_passes_142 : decode cX5_passes 142 = .ok (.dup, 1) := by decide +kernel
theorem dX5_passes_143 : decode cX5_passes 143 = .ok (.getfield 108, 3) := by decide +kernel
theorem dX5_passes_146 : decode cX5_passes 146 = .ok (.iconst 1, 1) := by decide +kernel
theorem dX5_passes_147 : decode cX5_passes 147 = .ok (.iadd, 1) := by decide +kernel
theorem dX5_passes_148 : decode cX5_passes 148 = .ok (.putfield 108, 3) := by decide +kernel
theorem dX5_passes_151 : decode cX5_passes 151 = .ok (.aload_n 0, 1) := by decide +kernel
theorem dX5_passes_152 : decode cX5_passes 152 = .ok (.dup, 1) := by decide +kernel
theorem dX5_passes_153 : decode cX5_passes 153 = .ok (.getfield 111, 3) := by decide +kernel
theorem dX5_passes_156 : decode cX5_passes 156 = .ok (.iload_n 3, 1) := by decide +kernel
theorem dX5_passes_157 : decode cX5_passes 157 = .ok (.iadd, 1) := by decide +kernel
theorem dX5_passes_158 : decode cX5_passes 158 = .ok (.putfield 111, 3) := by decide +kernel
theorem dX5_passes_161 : decode cX5_passes 161 = .ok (.aload_n 0, 1) := by decide +kernel
theorem dX5_passes_162 : decode cX5_passes 162 = .ok (.iload_n 3, 1) := by decide +kernel
theorem dX5_passes_163 : decode cX5_passes 163 = .ok (.iconst 1, 1) := by decide +kernel
theorem dX5_passes_164 : decode cX5_passes 164 = .ok (.invokevirtual 96, 3) := by decide +kernel
theorem dX5_passes_167 : decode cX5_passes 167 = .ok (.iload_n 2, 1) := by decide +kernel
theorem dX5_passes_168 : decode cX5_passes 168 = .ok (.ireturn, 1) := by decide +kernel
theorem dX5_next_0 : decode cX5_next 0 = .ok (.iconst 3, 1) := by decide +kernel
theorem dX5_next_1 : decode cX5_next 1 = .ok (.newarray .boolean, 2) := by decide +kernel
theorem dX5_next_3 : decode cX5_next 3 = .ok (.astore_n 1, 1) := by decide +kernel
theorem dX5_next_4 : decode cX5_next 4 = .ok (.iconst 0, 1) := by decide +kernel
theorem dX5_next_5 : decode cX5_next 5 = .ok (.istore_n 2, 1) := by decide +kernel
