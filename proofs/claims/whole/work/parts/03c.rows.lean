theorem dX4_nearestWaiting_99 : decode cX4_nearestWaiting 99 = .ok (.ireturn, 1) := by decide +kernel
set_option maxRecDepth 20000 in
theorem ggX4_passAnHour_X4_isGrade : GoodIn wsX4_passAnHour wsX4_isGrade := goodIn_r _ [12, 13, 118, 119, 120, 121, 122, 123, 124, 125, 126, 127, 128, 129, 130] (by decide +kernel) (by decide +kernel)
set_option maxRecDepth 20000 in
theorem gX4_passAnHour_X4_isGrade : GoodIn wsX4_passAnHour (wsV RX4 86 RX4 yX4_isGrade wsX4_isGrade) := goodIn_app (goodIn_of _ (by decide +kernel)) ggX4_passAnHour_X4_isGrade
set_option maxRecDepth 20000 in
theorem ggX4_passAnHour_X2_writeNothing : GoodIn wsX4_passAnHour wsX2_writeNothing := goodIn_ca (goodIn_r _ [18, 19, 20, 21, 17, 22, 23, 24, 25, 26, 27, 28, 29, 30, 139, 140, 141, 142, 143, 144, 145, 146, 147, 148, 149] (by decide +kernel) (by decide +kernel)) (goodIn_sub (fun _ h => List.mem_cons_of_mem _ (List.mem_append_left _ (List.mem_append_right _ h))) (by decide +kernel))
set_option maxRecDepth 20000 in
theorem gX4_passAnHour_X2_writeNothing : GoodIn wsX4_passAnHour (wsV RX4 245 RX2 yX2_writeNothing wsX2_writeNothing) := goodIn_app (goodIn_of _ (by decide +kernel)) ggX4_passAnHour_X2_writeNothing
set_option maxRecDepth 20000 in
theorem ggX4_passAnHour_X4_massOfAnHour : GoodIn wsX4_passAnHour wsX4_massOfAnHour := goodIn_ca (goodIn_r _ [34, 35, 6, 8, 9, 10, 11, 12, 13, 118, 119, 120, 121, 122, 123, 124, 125, 126, 127, 128, 129, 130] (by decide +kernel) (by decide +kernel)) (goodIn_sub (fun _ h => List.mem_cons_of_mem _ (List.mem_append_left _ (List.mem_append_right _ h))) (by decide +kernel))
set_option maxRecDepth 20000 in
theorem gX4_passAnHour_X4_massOfAnHour : GoodIn wsX4_passAnHour (wsV RX4 118 RX4 yX4_massOfAnHour wsX4_massOfAnHour) := goodIn_app (goodIn_of _ (by decide +kernel)) ggX4_passAnHour_X4_massOfAnHour
set_option maxRecDepth 20000 in
theorem ggX4_passAnHour_X4_make : GoodIn wsX4_passAnHour wsX4_make := goodIn_ca (goodIn_r _ [39, 40, 41, 42, 43, 44, 45, 2, 46, 47, 48, 49, 20, 21, 17, 22, 23, 24, 25, 26, 27, 28, 29, 30, 50, 51, 52, 53, 54, 55, 56, 57, 58, 118, 119, 120, 121, 122, 123, 124, 125, 126, 127, 128, 129, 130, 139, 140, 141, 142, 143, 144, 145, 146, 147, 148, 149, 150, 151, 152] (by decide +kernel) (by decide +kernel)) (goodIn_sub (fun _ h => List.mem_cons_of_mem _ (List.mem_append_left _ (List.mem_append_right _ h))) (by decide +kernel))
set_option maxRecDepth 20000 in
theorem gX4_passAnHour_X4_make : GoodIn wsX4_passAnHour (wsV RX4 248 RX4 yX4_make wsX4_make) := goodIn_app (goodIn_of _ (by decide +kernel)) ggX4_passAnHour_X4_make
set_option maxRecDepth 20000 in
theorem ggX4_passAnHour_X1_load : GoodIn wsX4_passAnHour wsX1_load := goodIn_ca (goodIn_r _ [63, 64, 43, 44, 45, 65, 66, 67, 68, 69, 70, 71, 72, 73, 74, 75, 76, 77, 78, 79, 80, 131, 132, 133, 134, 135, 136, 137, 138, 153, 154, 155, 156, 157] (by decide +kernel) (by decide +kernel)) (goodIn_sub (fun _ h => List.mem_cons_of_mem _ (List.mem_append_left _ (List.mem_append_right _ h))) (by decide +kernel))
set_option maxRecDepth 20000 in
theorem gX4_passAnHour_X1_load : GoodIn wsX4_passAnHour (wsV RX4 151 RX1 yX1_load wsX1_load) := goodIn_app (goodIn_of _ (by decide +kernel)) ggX4_passAnHour_X1_load
set_option maxRecDepth 20000 in
theorem ggX4_passAnHour_X1_sumBySearch : GoodIn wsX4_passAnHour wsX1_sumBySearch := goodIn_ca (goodIn_r _ [84, 85, 86, 87, 88, 89, 90, 91, 92, 62, 93, 74, 68, 64, 43, 44, 45, 72, 70, 94, 95, 96, 97, 98, 99, 100, 101, 102, 131, 132, 133, 134, 135, 136, 137, 138] (by decide +kernel) (by decide +kernel)) (goodIn_sub (fun _ h => List.mem_cons_of_mem _ (List.mem_append_left _ (List.mem_append_right _ h))) (by decide +kernel))
set_option maxRecDepth 20000 in
theorem gX4_passAnHour_X1_sumBySearch : GoodIn wsX4_passAnHour (wsV RX4 155 RX1 yX1_sumBySearch wsX1_sumBySearch) := goodIn_app (goodIn_of _ (by decide +kernel)) ggX4_passAnHour_X1_sumBySearch
set_option maxRecDepth 20000 in
theorem ggX4_passAnHour_X4_quotient : GoodIn wsX4_passAnHour wsX4_quotient := goodIn_ca (goodIn_r _ [105] (by decide +kernel) (by decide +kernel)) (goodIn_sub (fun _ h => List.mem_cons_of_mem _ (List.mem_append_right _ h)) (by decide +kernel))
set_option maxRecDepth 20000 in
theorem gX4_passAnHour_X4_quotient : GoodIn wsX4_passAnHour (va_wsS RX4 252 yX4_quotient wsX4_quotient) := goodIn_app (goodIn_of _ (by decide +kernel)) ggX4_passAnHour_X4_quotient
set_option maxRecDepth 20000 in
theorem ggX4_passAnHour_X2_writeTrim : GoodIn wsX4_passAnHour wsX2_writeTrim := goodIn_r _ [109, 110, 111, 139, 140, 141, 142, 143, 144, 145, 146, 147, 148, 149] (by decide +kernel) (by decide +kernel)
set_option maxRecDepth 20000 in
theorem gX4_passAnHour_X2_writeTrim : GoodIn wsX4_passAnHour (wsV RX4 255 RX2 yX2_writeTrim wsX2_writeTrim) := goodIn_app (goodIn_of _ (by decide +kernel)) ggX4_passAnHour_X2_writeTrim
set_option maxRecDepth 20000 in
theorem ggX4_passAnHour_X3_takeOff : GoodIn wsX4_passAnHour wsX3_takeOff := goodIn_ca (goodIn_r _ [115, 80, 116, 117, 153, 154, 155, 156, 157] (by decide +kernel) (by decide +kernel)) (goodIn_sub (fun _ h => List.mem_cons_of_mem _ (List.mem_append_left _ (List.mem_append_right _ h))) (by decide +kernel))
set_option maxRecDepth 20000 in
theorem gX4_passAnHour_X3_takeOff : GoodIn wsX4_passAnHour (wsV RX4 259 RX3 yX3_takeOff wsX3_takeOff) := goodIn_app (goodIn_of _ (by decide +kernel)) ggX4_passAnHour_X3_takeOff
theorem dX4_passAnHour_0 : decode cX4_passAnHour 0 = .ok (.aload_n 0, 1) := by decide +kernel
theorem dX4_passAnHour_1 : decode cX4_passAnHour 1 = .ok (.aload_n 0, 1) := by decide +kernel
theorem dX4_passAnHour_2 : decode cX4_passAnHour 2 = .ok (.getfield 17, 3) := by decide +kernel
theorem dX4_passAnHour_5 : decode cX4_passAnHour 5 = .ok (.invokevirtual 86, 3) := by decide +kernel
theorem dX4_passAnHour_8 : decode cX4_passAnHour 8 = .ok (.ifCond .ne 12, 3) := by decide +kernel
theorem dX4_passAnHour_11 : decode cX4_passAnHour 11 = .ok (.aload_n 0, 1) := by decide +kernel
theorem dX4_passAnHour_12 : decode cX4_passAnHour 12 = .ok (.getfield 48, 3) := by decide +kernel
theorem dX4_passAnHour_15 : decode cX4_passAnHour 15 = .ok (.invokevirtual 245, 3) := by decide +kernel
theorem dX4_passAnHour_18 : decode cX4_passAnHour 18 = .ok (.iconst 0, 1) := by decide +kernel
theorem dX4_passAnHour_19 : decode cX4_passAnHour 19 = .ok (.ireturn, 1) := by decide +kernel
theorem dX4_passAnHour_20 : decode cX4_passAnHour 20 = .ok (.aload_n 0, 1) := by decide +kernel
theorem dX4_passAnHour_21 : decode cX4_passAnHour 21 = .ok (.aload_n 0, 1) := by decide +kernel
theorem dX4_passAnHour_22 : decode cX4_passAnHour 22 = .ok (.getfield 17, 3) := by decide +kernel
theorem dX4_passAnHour_25 : decode cX4_passAnHour 25 = .ok (.invokevirtual 118, 3) := by decide +kernel
theorem dX4_passAnHour_28 : decode cX4_passAnHour 28 = .ok (.istore_n 1, 1) := by decide +kernel
theorem dX4_passAnHour_29 : decode cX4_passAnHour 29 = .ok (.aload_n 0, 1) := by decide +kernel
theorem dX4_passAnHour_30 : decode cX4_passAnHour 30 = .ok (.getfield 96, 3) := by decide +kernel
theorem dX4_passAnHour_33 : decode cX4_passAnHour 33 = .ok (.ifCond .le 23, 3) := by decide +kernel
theorem dX4_passAnHour_36 : decode cX4_passAnHour 36 = .ok (.aload_n 0, 1) := by decide +kernel
theorem dX4_passAnHour_37 : decode cX4_passAnHour 37 = .ok (.bipush 99, 2) := by decide +kernel
theorem dX4_passAnHour_39 : decode cX4_passAnHour 39 = .ok (.iload_n 1, 1) := by decide +kernel
theorem dX4_passAnHour_40 : decode cX4_passAnHour 40 = .ok (.iload_n 1, 1) := by decide +kernel
theorem dX4_passAnHour_41 : decode cX4_passAnHour 41 = .ok (.invokevirtual 248, 3) := by decide +kernel
theorem dX4_passAnHour_44 : decode cX4_passAnHour 44 = .ok (.aload_n 0, 1) := by decide +kernel
theorem dX4_passAnHour_45 : decode cX4_passAnHour 45 = .ok (.dup, 1) := by decide +kernel
theorem dX4_passAnHour_46 : decode cX4_passAnHour 46 = .ok (.getfield 96, 3) := by decide +kernel
theorem dX4_passAnHour_49 : decode cX4_passAnHour 49 = .ok (.iconst 1, 1) := by decide +kernel
theorem dX4_passAnHour_50 : decode cX4_passAnHour 50 = .ok (.isub, 1) := by decide +kernel
theorem dX4_passAnHour_51 : decode cX4_passAnHour 51 = .ok (.putfield 96, 3) := by decide +kernel
theorem dX4_passAnHour_54 : decode cX4_passAnHour 54 = .ok (.iconst 0, 1) := by decide +kernel
theorem dX4_passAnHour_55 : decode cX4_passAnHour 55 = .ok (.ireturn, 1) := by decide +kernel
theorem dX4_passAnHour_56 : decode cX4_passAnHour 56 = .ok (.aload_n 0, 1) := by decide +kernel
theorem dX4_passAnHour_57 : decode cX4_passAnHour 57 = .ok (.getfield 34, 3) := by decide +kernel
theorem dX4_passAnHour_60 : decode cX4_passAnHour 60 = .ok (.aload_n 0, 1) := by decide +kernel
theorem dX4_passAnHour_61 : decode cX4_passAnHour 61 = .ok (.getfield 27, 3) := by decide +kernel
theorem dX4_passAnHour_64 : decode cX4_passAnHour 64 = .ok (.aload_n 0, 1) := by decide +kernel
theorem dX4_passAnHour_65 : decode cX4_passAnHour 65 = .ok (.getfield 17, 3) := by decide +kernel
theorem dX4_passAnHour_68 : decode cX4_passAnHour 68 = .ok (.aload_n 0, 1) := by decide +kernel
theorem dX4_passAnHour_69 : decode cX4_passAnHour 69 = .ok (.getfield 13, 3) := by decide +kernel
theorem dX4_passAnHour_72 : decode cX4_passAnHour 72 = .ok (.invokevirtual 151, 3) := by decide +kernel
theorem dX4_passAnHour_75 : decode cX4_passAnHour 75 = .ok (.aload_n 0, 1) := by decide +kernel
theorem dX4_passAnHour_76 : decode cX4_passAnHour 76 = .ok (.getfield 34, 3) := by decide +kernel
theorem dX4_passAnHour_79 : decode cX4_passAnHour 79 = .ok (.invokevirtual 155, 3) := by decide +kernel
theorem dX4_passAnHour_82 : decode cX4_passAnHour 82 = .ok (.istore_n 2, 1) := by decide +kernel
theorem dX4_passAnHour_83 : decode cX4_passAnHour 83 = .ok (.iload_n 2, 1) := by decide +kernel
theorem dX4_passAnHour_84 : decode cX4_passAnHour 84 = .ok (.ifCond .gt 12, 3) := by decide +kernel
theorem dX4_passAnHour_87 : decode cX4_passAnHour 87 = .ok (.aload_n 0, 1) := by decide +kernel
theorem dX4_passAnHour_88 : decode cX4_passAnHour 88 = .ok (.getfield 48, 3) := by decide +kernel
theorem dX4_passAnHour_91 : decode cX4_passAnHour 91 = .ok (.invokevirtual 245, 3) := by decide +kernel
theorem dX4_passAnHour_94 : decode cX4_passAnHour 94 = .ok (.iconst 0, 1) := by decide +kernel
theorem dX4_passAnHour_95 : decode cX4_passAnHour 95 = .ok (.ireturn, 1) := by decide +kernel
theorem dX4_passAnHour_96 : decode cX4_passAnHour 96 = .ok (.aload_n 0, 1) := by decide +kernel
theorem dX4_passAnHour_97 : decode cX4_passAnHour 97 = .ok (.getfield 13, 3) := by decide +kernel
theorem dX4_passAnHour_100 : decode cX4_passAnHour 100 = .ok (.iload_n 2, 1) := by decide +kernel
theorem dX4_passAnHour_101 : decode cX4_passAnHour 101 = .ok (.isub, 1) := by decide +kernel
theorem dX4_passAnHour_102 : decode cX4_passAnHour 102 = .ok (.istore_n 3, 1) := by decide +kernel
theorem dX4_passAnHour_103 : decode cX4_passAnHour 103 = .ok (.aload_n 0, 1) := by decide +kernel
theorem dX4_passAnHour_104 : decode cX4_passAnHour 104 = .ok (.bipush 112, 2) := by decide +kernel
theorem dX4_passAnHour_106 : decode cX4_passAnHour 106 = .ok (.iload_n 1, 1) := by decide +kernel
theorem dX4_passAnHour_107 : decode cX4_passAnHour 107 = .ok (.iload_n 1, 1) := by decide +kernel
theorem dX4_passAnHour_108 : decode cX4_passAnHour 108 = .ok (.iload_n 3, 1) := by decide +kernel
theorem dX4_passAnHour_109 : decode cX4_passAnHour 109 = .ok (.imul, 1) := by decide +kernel
theorem dX4_passAnHour_110 : decode cX4_passAnHour 110 = .ok (.aload_n 0, 1) := by decide +kernel
theorem dX4_passAnHour_111 : decode cX4_passAnHour 111 = .ok (.getfield 13, 3) := by decide +kernel
theorem dX4_passAnHour_114 : decode cX4_passAnHour 114 = .ok (.invokestatic 252, 3) := by decide +kernel
theorem dX4_passAnHour_117 : decode cX4_passAnHour 117 = .ok (.invokevirtual 248, 3) := by decide +kernel
theorem dX4_passAnHour_120 : decode cX4_passAnHour 120 = .ok (.aload_n 0, 1) := by decide +kernel
theorem dX4_passAnHour_121 : decode cX4_passAnHour 121 = .ok (.getfield 48, 3) := by decide +kernel
theorem dX4_passAnHour_124 : decode cX4_passAnHour 124 = .ok (.iload_n 3, 1) := by decide +kernel
theorem dX4_passAnHour_125 : decode cX4_passAnHour 125 = .ok (.invokevirtual 255, 3) := by decide +kernel
theorem dX4_passAnHour_128 : decode cX4_passAnHour 128 = .ok (.aload_n 0, 1) := by decide +kernel
theorem dX4_passAnHour_129 : decode cX4_passAnHour 129 = .ok (.getfield 27, 3) := by decide +kernel
theorem dX4_passAnHour_132 : decode cX4_passAnHour 132 = .ok (.aload_n 0, 1) := by decide +kernel
theorem dX4_passAnHour_133 : decode cX4_passAnHour 133 = .ok (.getfield 34, 3) := by decide +kernel
theorem dX4_passAnHour_136 : decode cX4_passAnHour 136 = .ok (.getfield 164, 3) := by decide +kernel
theorem dX4_passAnHour_139 : decode cX4_passAnHour 139 = .ok (.invokevirtual 259, 3) := by decide +kernel
theorem dX4_passAnHour_142 : decode cX4_passAnHour 142 = .ok (.ireturn, 1) := by decide +kernel
set_option maxRecDepth 20000 in
theorem ggX4_make_X2_writeMade : GoodIn wsX4_make wsX2_writeMade := goodIn_ca (goodIn_r _ [15, 16, 17, 18, 19, 20, 21, 22, 23, 46, 47, 48, 49, 50, 51, 52, 53, 54, 55, 56] (by decide +kernel) (by decide +kernel)) (goodIn_sub (fun _ h => List.mem_cons_of_mem _ (List.mem_append_right _ h)) (by decide +kernel))
set_option maxRecDepth 20000 in
theorem gX4_make_X2_writeMade : GoodIn wsX4_make (wsV RX4 266 RX2 yX2_writeMade wsX2_writeMade) := goodIn_app (goodIn_of _ (by decide +kernel)) ggX4_make_X2_writeMade
set_option maxRecDepth 20000 in
theorem ggX4_make_X0_cost : GoodIn wsX4_make wsX0_cost := goodIn_r _ [28, 29, 30, 4, 5, 6, 31, 32, 57, 58, 59] (by decide +kernel) (by decide +kernel)
set_option maxRecDepth 20000 in
theorem gX4_make_X0_cost : GoodIn wsX4_make (wsV RX4 270 RX0 yX0_cost wsX0_cost) := goodIn_app (goodIn_of _ (by decide +kernel)) ggX4_make_X0_cost
theorem dX4_make_0 : decode cX4_make 0 = .ok (.iload_n 2, 1) := by decide +kernel
theorem dX4_make_1 : decode cX4_make 1 = .ok (.bipush 50, 2) := by decide +kernel
theorem dX4_make_3 : decode cX4_make 3 = .ok (.idiv, 1) := by decide +kernel
theorem dX4_make_4 : decode cX4_make 4 = .ok (.istore 4, 2) := by decide +kernel
theorem dX4_make_6 : decode cX4_make 6 = .ok (.iload_n 2, 1) := by decide +kernel
theorem dX4_make_7 : decode cX4_make 7 = .ok (.iload 4, 2) := by decide +kernel
theorem dX4_make_9 : decode cX4_make 9 = .ok (.iadd, 1) := by decide +kernel
theorem dX4_make_10 : decode cX4_make 10 = .ok (.istore 5, 2) := by decide +kernel
theorem dX4_make_12 : decode cX4_make 12 = .ok (.aload_n 0, 1) := by decide +kernel
theorem dX4_make_13 : decode cX4_make 13 = .ok (.getfield 203, 3) := by decide +kernel
theorem dX4_make_16 : decode cX4_make 16 = .ok (.iload 5, 2) := by decide +kernel
theorem dX4_make_18 : decode cX4_make 18 = .ok (.aload_n 0, 1) := by decide +kernel
theorem dX4_make_19 : decode cX4_make 19 = .ok (.getfield 52, 3) := by decide +kernel
theorem dX4_make_22 : decode cX4_make 22 = .ok (.imul, 1) := by decide +kernel
theorem dX4_make_23 : decode cX4_make 23 = .ok (.bipush 100, 2) := by decide +kernel
theorem dX4_make_25 : decode cX4_make 25 = .ok (.idiv, 1) := by decide +kernel
theorem dX4_make_26 : decode cX4_make 26 = .ok (.invokestatic 263, 3) := by decide +kernel
theorem dX4_make_29 : decode cX4_make 29 = .ok (.istore 6, 2) := by decide +kernel
theorem dX4_make_31 : decode cX4_make 31 = .ok (.aload_n 0, 1) := by decide +kernel
theorem dX4_make_32 : decode cX4_make 32 = .ok (.dup, 1) := by decide +kernel
theorem dX4_make_33 : decode cX4_make 33 = .ok (.getfield 203, 3) := by decide +kernel
theorem dX4_make_36 : decode cX4_make 36 = .ok (.iload_n 3, 1) := by decide +kernel
theorem dX4_make_37 : decode cX4_make 37 = .ok (.iload 6, 2) := by decide +kernel
theorem dX4_make_39 : decode cX4_make 39 = .ok (.isub, 1) := by decide +kernel
theorem dX4_make_40 : decode cX4_make 40 = .ok (.iadd, 1) := by decide +kernel
theorem dX4_make_41 : decode cX4_make 41 = .ok (.putfield 203, 3) := by decide +kernel
theorem dX4_make_44 : decode cX4_make 44 = .ok (.aload_n 0, 1) := by decide +kernel
theorem dX4_make_45 : decode cX4_make 45 = .ok (.getfield 48, 3) := by decide +kernel
theorem dX4_make_48 : decode cX4_make 48 = .ok (.iload_n 1, 1) := by decide +kernel
theorem dX4_make_49 : decode cX4_make 49 = .ok (.iload 5, 2) := by decide +kernel
theorem dX4_make_51 : decode cX4_make 51 = .ok (.iload 6, 2) := by decide +kernel
theorem dX4_make_53 : decode cX4_make 53 = .ok (.isub, 1) := by decide +kernel
theorem dX4_make_54 : decode cX4_make 54 = .ok (.iload_n 2, 1) := by decide +kernel
theorem dX4_make_55 : decode cX4_make 55 = .ok (.iload_n 3, 1) := by decide +kernel
theorem dX4_make_56 : decode cX4_make 56 = .ok (.isub, 1) := by decide +kernel
theorem dX4_make_57 : decode cX4_make 57 = .ok (.iload 4, 2) := by decide +kernel
theorem dX4_make_59 : decode cX4_make 59 = .ok (.invokevirtual 266, 3) := by decide +kernel
theorem dX4_make_62 : decode cX4_make 62 = .ok (.aload_n 0, 1) := by decide +kernel
theorem dX4_make_63 : decode cX4_make 63 = .ok (.getfield 48, 3) := by decide +kernel
theorem dX4_make_66 : decode cX4_make 66 = .ok (.dup, 1) := by decide +kernel
theorem dX4_make_67 : decode cX4_make 67 = .ok (.getfield 229, 3) := by decide +kernel
theorem dX4_make_70 : decode cX4_make 70 = .ok (.iload_n 2, 1) := by decide +kernel
theorem dX4_make_71 : decode cX4_make 71 = .ok (.i2l, 1) := by decide +kernel
theorem dX4_make_72 : decode cX4_make 72 = .ok (.ladd, 1) := by decide +kernel
theorem dX4_make_73 : decode cX4_make 73 = .ok (.putfield 229, 3) := by decide +kernel
theorem dX4_make_76 : decode cX4_make 76 = .ok (.aload_n 0, 1) := by decide +kernel
theorem dX4_make_77 : decode cX4_make 77 = .ok (.dup, 1) := by decide +kernel
theorem dX4_make_78 : decode cX4_make 78 = .ok (.getfield 226, 3) := by decide +kernel
theorem dX4_make_81 : decode cX4_make 81 = .ok (.aload_n 0, 1) := by decide +kernel
theorem dX4_make_82 : decode cX4_make 82 = .ok (.getfield 41, 3) := by decide +kernel
theorem dX4_make_85 : decode cX4_make 85 = .ok (.iload_n 2, 1) := by decide +kernel
theorem dX4_make_86 : decode cX4_make 86 = .ok (.iconst 2, 1) := by decide +kernel
theorem dX4_make_87 : decode cX4_make 87 = .ok (.idiv, 1) := by decide +kernel
theorem dX4_make_88 : decode cX4_make 88 = .ok (.invokevirtual 270, 3) := by decide +kernel
theorem dX4_make_91 : decode cX4_make 91 = .ok (.ladd, 1) := by decide +kernel
theorem dX4_make_92 : decode cX4_make 92 = .ok (.putfield 226, 3) := by decide +kernel
theorem dX4_make_95 : decode cX4_make 95 = .ok (.return_, 1) := by decide +kernel
theorem dX4_isWithin_0 : decode cX4_isWithin 0 = .ok (.iload_n 0, 1) := by decide +kernel
theorem dX4_isWithin_1 : decode cX4_isWithin 1 = .ok (.iload_n 1, 1) := by decide +kernel
theorem dX4_isWithin_2 : decode cX4_isWithin 2 = .ok (.if_icmp .lt 12, 3) := by decide +kernel
theorem dX4_isWithin_5 : decode cX4_isWithin 5 = .ok (.iload_n 0, 1) := by decide +kernel
theorem dX4_isWithin_6 : decode cX4_isWithin 6 = .ok (.iload_n 2, 1) := by decide +kernel
theorem dX4_isWithin_7 : decode cX4_isWithin 7 = .ok (.if_icmp .gt 7, 3) := by decide +kernel
theorem dX4_isWithin_10 : decode cX4_isWithin 10 = .ok (.iconst 1, 1) := by decide +kernel
theorem dX4_isWithin_11 : decode cX4_isWithin 11 = .ok (.goto 4, 3) := by decide +kernel
theorem dX4_isWithin_14 : decode cX4_isWithin 14 = .ok (.iconst 0, 1) := by decide +kernel
theorem dX4_isWithin_15 : decode cX4_isWithin 15 = .ok (.ireturn, 1) := by decide +kernel
theorem dX4_quotient_0 : decode cX4_quotient 0 = .ok (.iload_n 1, 1) := by decide +kernel
theorem dX4_quotient_1 : decode cX4_quotient 1 = .ok (.ifCond .le 9, 3) := by decide +kernel
theorem dX4_quotient_4 : decode cX4_quotient 4 = .ok (.iload_n 0, 1) := by decide +kernel
theorem dX4_quotient_5 : decode cX4_quotient 5 = .ok (.iload_n 1, 1) := by decide +kernel
theorem dX4_quotient_6 : decode cX4_quotient 6 = .ok (.idiv, 1) := by decide +kernel
theorem dX4_quotient_7 : decode cX4_quotient 7 = .ok (.goto 4, 3) := by decide +kernel
theorem dX4_quotient_10 : decode cX4_quotient 10 = .ok (.iconst 0, 1) := by decide +kernel
theorem dX4_quotient_11 : decode cX4_quotient 11 = .ok (.ireturn, 1) := by decide +kernel
theorem dX4_quotientUp_0 : decode cX4_quotientUp 0 = .ok (.iload_n 1, 1) := by decide +kernel
theorem dX4_quotientUp_1 : decode cX4_quotientUp 1 = .ok (.ifCond .le 13, 3) := by decide +kernel
theorem dX4_quotientUp_4 : decode cX4_quotientUp 4 = .ok (.iload_n 0, 1) := by decide +kernel
theorem dX4_quotientUp_5 : decode cX4_quotientUp 5 = .ok (.iload_n 1, 1) := by decide +kernel
theorem dX4_quotientUp_6 : decode cX4_quotientUp 6 = .ok (.iadd, 1) := by decide +kernel
theorem dX4_quotientUp_7 : decode cX4_quotientUp 7 = .ok (.iconst 1, 1) := by decide +kernel
theorem dX4_quotientUp_8 : decode cX4_quotientUp 8 = .ok (.isub, 1) := by decide +kernel
theorem dX4_quotientUp_9 : decode cX4_quotientUp 9 = .ok (.iload_n 1, 1) := by decide +kernel
theorem dX4_quotientUp_10 : decode cX4_quotientUp 10 = .ok (.idiv, 1) := by decide +kernel
theorem dX4_quotientUp_11 : decode cX4_quotientUp 11 = .ok (.goto 4, 3) := by decide +kernel
theorem dX4_quotientUp_14 : decode cX4_quotientUp 14 = .ok (.iconst 0, 1) := by decide +kernel
theorem dX4_quotientUp_15 : decode cX4_quotientUp 15 = .ok (.ireturn, 1) := by decide +kernel
theorem dX5_init_0 : decode cX5_init 0 = .ok (.aload_n 0, 1) := by decide +kernel
theorem dX5_init_1 : decode cX5_init 1 = .ok (.invokespecial 1, 3) := by decide +kernel
theorem dX5_init_4 : decode cX5_init 4 = .ok (.aload_n 0, 1) := by decide +kernel
theorem dX5_init_5 : decode cX5_init 5 = .ok (.bipush 6, 2) := by decide +kernel
theorem dX5_init_7 : decode cX5_init 7 = .ok (.newarray .int, 2) := by decide +kernel
theorem dX5_init_9 : decode cX5_init 9 = .ok (.putfield 9, 3) := by decide +kernel
theorem dX5_init_12 : decode cX5_init 12 = .ok (.aload_n 0, 1) := by decide +kernel
theorem dX5_init_13 : decode cX5_init 13 = .ok (.sipush 600, 3) := by decide +kernel
theorem dX5_init_16 : decode cX5_init 16 = .ok (.putfield 13, 3) := by decide +kernel
theorem dX5_init_19 : decode cX5_init 19 = .ok (.aload_n 0, 1) := by decide +kernel
theorem dX5_init_20 : decode cX5_init 20 = .ok (.iconst (-1), 1) := by decide +kernel
theorem dX5_init_21 : decode cX5_init 21 = .ok (.putfield 17, 3) := by decide +kernel
theorem dX5_init_24 : decode cX5_init 24 = .ok (.aload_n 0, 1) := by decide +kernel
theorem dX5_init_25 : decode cX5_init 25 = .ok (.iconst 1, 1) := by decide +kernel
theorem dX5_init_26 : decode cX5_init 26 = .ok (.putfield 20, 3) := by decide +kernel
theorem dX5_init_29 : decode cX5_init 29 = .ok (.aload_n 0, 1) := by decide +kernel
theorem dX5_init_30 : decode cX5_init 30 = .ok (.bipush 10, 2) := by decide +kernel
theorem dX5_init_32 : decode cX5_init 32 = .ok (.newarray .int, 2) := by decide +kernel
theorem dX5_init_34 : decode cX5_init 34 = .ok (.putfield 24, 3) := by decide +kernel
theorem dX5_init_37 : decode cX5_init 37 = .ok (.aload_n 0, 1) := by decide +kernel
theorem dX5_init_38 : decode cX5_init 38 = .ok (.bipush 10, 2) := by decide +kernel
theorem dX5_init_40 : decode cX5_init 40 = .ok (.newarray .int, 2) := by decide +kernel
theorem dX5_init_42 : decode cX5_init 42 = .ok (.putfield 27, 3) := by decide +kernel
theorem dX5_init_45 : decode cX5_init 45 = .ok (.aload_n 0, 1) := by decide +kernel
theorem dX5_init_46 : decode cX5_init 46 = .ok (.bipush 10, 2) := by decide +kernel
theorem dX5_init_48 : decode cX5_init 48 = .ok (.newarray .int, 2) := by decide +kernel
theorem dX5_init_50 : decode cX5_init 50 = .ok (.putfield 30, 3) := by decide +kernel
theorem dX5_init_53 : decode cX5_init 53 = .ok (.aload_n 0, 1) := by decide +kernel
theorem dX5_init_54 : decode cX5_init 54 = .ok (.bipush 10, 2) := by decide +kernel
theorem dX5_init_56 : decode cX5_init 56 = .ok (.newarray .int, 2) := by decide +kernel
theorem dX5_init_58 : decode cX5_init 58 = .ok (.putfield 33, 3) := by decide +kernel
theorem dX5_init_61 : decode cX5_init 61 = .ok (.aload_n 0, 1) := by decide +kernel
theorem dX5_init_62 : decode cX5_init 62 = .ok (.bipush 20, 2) := by decide +kernel
theorem dX5_init_64 : decode cX5_init 64 = .ok (.putfield 36, 3) := by decide +kernel
theorem dX5_init_67 : decode cX5_init 67 = .ok (.aload_n 0, 1) := by decide +kernel
theorem dX5_init_68 : decode cX5_init 68 = .ok (.sipush 2000, 3) := by decide +kernel
theorem dX5_init_71 : decode cX5_init 71 = .ok (.putfield 39, 3) := by decide +kernel
theorem dX5_init_74 : decode cX5_init 74 = .ok (.aload_n 0, 1) := by decide +kernel
theorem dX5_init_75 : decode cX5_init 75 = .ok (.iconst 3, 1) := by decide +kernel
theorem dX5_init_76 : decode cX5_init 76 = .ok (.putfield 42, 3) := by decide +kernel
theorem dX5_init_79 : decode cX5_init 79 = .ok (.aload_n 0, 1) := by decide +kernel
theorem dX5_init_80 : decode cX5_init 80 = .ok (.iconst 5, 1) := by decide +kernel
theorem dX5_init_81 : decode cX5_init 81 = .ok (.putfield 45, 3) := by decide +kernel
theorem dX5_init_84 : decode cX5_init 84 = .ok (.aload_n 0, 1) := by decide +kernel
theorem dX5_init_85 : decode cX5_init 85 = .ok (.sipush 400, 3) := by decide +kernel
theorem dX5_init_88 : decode cX5_init 88 = .ok (.newarray .char, 2) := by decide +kernel
theorem dX5_init_90 : decode cX5_init 90 = .ok (.putfield 48, 3) := by decide +kernel
theorem dX5_init_93 : decode cX5_init 93 = .ok (.aload_n 0, 1) := by decide +kernel
theorem dX5_init_94 : decode cX5_init 94 = .ok (.bipush 10, 2) := by decide +kernel
theorem dX5_init_96 : decode cX5_init 96 = .ok (.newarray .int, 2) := by decide +kernel
theorem dX5_init_98 : decode cX5_init 98 = .ok (.putfield 52, 3) := by decide +kernel
theorem dX5_init_101 : decode cX5_init 101 = .ok (.aload_n 0, 1) := by decide +kernel
theorem dX5_init_102 : decode cX5_init 102 = .ok (.bipush 10, 2) := by decide +kernel
theorem dX5_init_104 : decode cX5_init 104 = .ok (.newarray .int, 2) := by decide +kernel
theorem dX5_init_106 : decode cX5_init 106 = .ok (.putfield 55, 3) := by decide +kernel
theorem dX5_init_109 : decode cX5_init 109 = .ok (.return_, 1) := by decide +kernel
theorem dX5_thrown_0 : decode cX5_thrown 0 = .ok (.aload_n 0, 1) := by decide +kernel
theorem dX5_thrown_1 : decode cX5_thrown 1 = .ok (.getfield 58, 3) := by decide +kernel
theorem dX5_thrown_4 : decode cX5_thrown 4 = .ok (.ireturn, 1) := by decide +kernel
theorem dX5_in_0 : decode cX5_in 0 = .ok (.iload_n 0, 1) := by decide +kernel
theorem dX5_in_1 : decode cX5_in 1 = .ok (.iload_n 1, 1) := by decide +kernel
theorem dX5_in_2 : decode cX5_in 2 = .ok (.if_icmp .lt 12, 3) := by decide +kernel
theorem dX5_in_5 : decode cX5_in 5 = .ok (.iload_n 0, 1) := by decide +kernel
theorem dX5_in_6 : decode cX5_in 6 = .ok (.iload_n 2, 1) := by decide +kernel
theorem dX5_in_7 : decode cX5_in 7 = .ok (.if_icmp .gt 7, 3) := by decide +kernel
theorem dX5_in_10 : decode cX5_in 10 = .ok (.iconst 1, 1) := by decide +kernel
theorem dX5_in_11 : decode cX5_in 11 = .ok (.goto 4, 3) := by decide +kernel
theorem dX5_in_14 : decode cX5_in 14 = .ok (.iconst 0, 1) := by decide +kernel
theorem dX5_in_15 : decode cX5_in 15 = .ok (.ireturn, 1) := by decide +kernel
theorem dX5_goesOn_0 : decode cX5_goesOn 0 = .ok (.aload_n 0, 1) := by decide +kernel
theorem dX5_goesOn_1 : decode cX5_goesOn 1 = .ok (.iload_n 1, 1) := by decide +kernel
theorem dX5_goesOn_2 : decode cX5_goesOn 2 = .ok (.putfield 58, 3) := by decide +kernel
theorem dX5_goesOn_5 : decode cX5_goesOn 5 = .ok (.iload_n 1, 1) := by decide +kernel
theorem dX5_goesOn_6 : decode cX5_goesOn 6 = .ok (.ifCond .ne 7, 3) := by decide +kernel
theorem dX5_goesOn_9 : decode cX5_goesOn 9 = .ok (.iconst 1, 1) := by decide +kernel
theorem dX5_goesOn_10 : decode cX5_goesOn 10 = .ok (.goto 4, 3) := by decide +kernel
theorem dX5_goesOn_13 : decode cX5_goesOn 13 = .ok (.iconst 0, 1) := by decide +kernel
theorem dX5_goesOn_14 : decode cX5_goesOn 14 = .ok (.ireturn, 1) := by decide +kernel
set_option maxRecDepth 20000 in
theorem ggX5_isGrade_X5_in : GoodIn wsX5_isGrade wsX5_in := goodIn_r _ [5] (by decide +kernel) (by decide +kernel)
set_option maxRecDepth 20000 in
theorem gX5_isGrade_X5_in : GoodIn wsX5_isGrade (va_wsS RX5 64 yX5_in wsX5_in) := goodIn_app (goodIn_of _ (by decide +kernel)) ggX5_isGrade_X5_in
theorem dX5_isGrade_0 : decode cX5_isGrade 0 = .ok (.iload_n 1, 1) := by decide +kernel
theorem dX5_isGrade_1 : decode cX5_isGrade 1 = .ok (.iconst 0, 1) := by decide +kernel
theorem dX5_isGrade_2 : decode cX5_isGrade 2 = .ok (.aload_n 0, 1) := by decide +kernel
theorem dX5_isGrade_3 : decode cX5_isGrade 3 = .ok (.getfield 61, 3) := by decide +kernel
theorem dX5_isGrade_6 : decode cX5_isGrade 6 = .ok (.iconst 1, 1) := by decide +kernel
theorem dX5_isGrade_7 : decode cX5_isGrade 7 = .ok (.isub, 1) := by decide +kernel
theorem dX5_isGrade_8 : decode cX5_isGrade 8 = .ok (.invokestatic 64, 3) := by decide +kernel
theorem dX5_isGrade_11 : decode cX5_isGrade 11 = .ok (.ireturn, 1) := by decide +kernel
set_option maxRecDepth 20000 in
theorem ggX5_isOrder_X5_in : GoodIn wsX5_isOrder wsX5_in := goodIn_r _ [5] (by decide +kernel) (by decide +kernel)
set_option maxRecDepth 20000 in
theorem gX5_isOrder_X5_in : GoodIn wsX5_isOrder (va_wsS RX5 64 yX5_in wsX5_in) := goodIn_app (goodIn_of _ (by decide +kernel)) ggX5_isOrder_X5_in
theorem dX5_isOrder_0 : decode cX5_isOrder 0 = .ok (.iload_n 1, 1) := by decide +kernel
theorem dX5_isOrder_1 : decode cX5_isOrder 1 = .ok (.iconst 0, 1) := by decide +kernel
theorem dX5_isOrder_2 : decode cX5_isOrder 2 = .ok (.aload_n 0, 1) := by decide +kernel
theorem dX5_isOrder_3 : decode cX5_isOrder 3 = .ok (.getfield 68, 3) := by decide +kernel
theorem dX5_isOrder_6 : decode cX5_isOrder 6 = .ok (.iconst 1, 1) := by decide +kernel
theorem dX5_isOrder_7 : decode cX5_isOrder 7 = .ok (.isub, 1) := by decide +kernel
theorem dX5_isOrder_8 : decode cX5_isOrder 8 = .ok (.invokestatic 64, 3) := by decide +kernel
theorem dX5_isOrder_11 : decode cX5_isOrder 11 = .ok (.ireturn, 1) := by decide +kernel
theorem dX5_hasWeight_0 : decode cX5_hasWeight 0 = .ok (.iconst 0, 1) := by decide +kernel
theorem dX5_hasWeight_1 : decode cX5_hasWeight 1 = .ok (.istore_n 2, 1) := by decide +kernel
theorem dX5_hasWeight_2 : decode cX5_hasWeight 2 = .ok (.iconst 0, 1) := by decide +kernel
theorem dX5_hasWeight_3 : decode cX5_hasWeight 3 = .ok (.istore_n 3, 1) := by decide +kernel
theorem dX5_hasWeight_4 : decode cX5_hasWeight 4 = .ok (.iload_n 3, 1) := by decide +kernel
theorem dX5_hasWeight_5 : decode cX5_hasWeight 5 = .ok (.aload_n 0, 1) := by decide +kernel
theorem dX5_hasWeight_6 : decode cX5_hasWeight 6 = .ok (.getfield 61, 3) := by decide +kernel
theorem dX5_hasWeight_9 : decode cX5_hasWeight 9 = .ok (.if_icmp .ge 29, 3) := by decide +kernel
theorem dX5_hasWeight_12 : decode cX5_hasWeight 12 = .ok (.iload_n 2, 1) := by decide +kernel
theorem dX5_hasWeight_13 : decode cX5_hasWeight 13 = .ok (.ifCond .ne 13, 3) := by decide +kernel
theorem dX5_hasWeight_16 : decode cX5_hasWeight 16 = .ok (.aload_n 0, 1) := by decide +kernel
theorem dX5_hasWeight_17 : decode cX5_hasWeight 17 = .ok (.getfield 9, 3) := by decide +kernel
theorem dX5_hasWeight_20 : decode cX5_hasWeight 20 = .ok (.iload_n 3, 1) := by decide +kernel
theorem dX5_hasWeight_21 : decode cX5_hasWeight 21 = .ok (.iaload, 1) := by decide +kernel
theorem dX5_hasWeight_22 : decode cX5_hasWeight 22 = .ok (.iload_n 1, 1) := by decide +kernel
theorem dX5_hasWeight_23 : decode cX5_hasWeight 23 = .ok (.if_icmp .ne 7, 3) := by decide +kernel
theorem dX5_hasWeight_26 : decode cX5_hasWeight 26 = .ok (.iconst 1, 1) := by decide +kernel
theorem dX5_hasWeight_27 : decode cX5_hasWeight 27 = .ok (.goto 4, 3) := by decide +kernel
theorem dX5_hasWeight_30 : decode cX5_hasWeight 30 = .ok (.iconst 0, 1) := by decide +kernel
theorem dX5_hasWeight_31 : decode cX5_hasWeight 31 = .ok (.istore_n 2, 1) := by decide +kernel
theorem dX5_hasWeight_32 : decode cX5_hasWeight 32 = .ok (.iinc 3 1, 3) := by decide +kernel
theorem dX5_hasWeight_35 : decode cX5_hasWeight 35 = .ok (.goto (-31), 3) := by decide +kernel
theorem dX5_hasWeight_38 : decode cX5_hasWeight 38 = .ok (.iload_n 2, 1) := by decide +kernel
theorem dX5_hasWeight_39 : decode cX5_hasWeight 39 = .ok (.ireturn, 1) := by decide +kernel
set_option maxRecDepth 20000 in
theorem ggX5_addGrade_X5_in : GoodIn wsX5_addGrade wsX5_in := goodIn_r _ [6] (by decide +kernel) (by decide +kernel)
set_option maxRecDepth 20000 in
theorem gX5_addGrade_X5_in : GoodIn wsX5_addGrade (va_wsS RX5 64 yX5_in wsX5_in) := goodIn_app (goodIn_of _ (by decide +kernel)) ggX5_addGrade_X5_in
set_option maxRecDepth 20000 in
theorem ggX5_addGrade_X5_hasWeight : GoodIn wsX5_addGrade wsX5_hasWeight := goodIn_ca (goodIn_r _ [10, 1, 2, 16, 17, 18, 19, 20, 21, 22, 23, 24, 25, 26, 27, 28, 29, 30, 31, 32, 33, 34, 35, 36, 37, 38, 39, 40, 41, 42, 43, 44] (by decide +kernel) (by decide +kernel)) (goodIn_sub (fun _ h => List.mem_cons_of_mem _ (List.mem_append_right _ h)) (by decide +kernel))
set_option maxRecDepth 20000 in
theorem gX5_addGrade_X5_hasWeight : GoodIn wsX5_addGrade (wsV RX5 71 RX5 yX5_hasWeight wsX5_hasWeight) := goodIn_app (goodIn_of _ (by decide +kernel)) ggX5_addGrade_X5_hasWeight
set_option maxRecDepth 20000 in
theorem ggX5_addGrade_X5_goesOn : GoodIn wsX5_addGrade wsX5_goesOn := goodIn_r _ [14, 15, 16, 17, 18, 19, 20, 21, 22, 23, 24, 25, 26, 27, 28, 29, 30, 31, 32, 33, 34, 35, 36, 37, 38, 39, 40, 41, 42, 43, 44] (by decide +kernel) (by decide +kernel)
set_option maxRecDepth 20000 in
theorem gX5_addGrade_X5_goesOn : GoodIn wsX5_addGrade (wsV RX5 75 RX5 yX5_goesOn wsX5_goesOn) := goodIn_app (goodIn_of _ (by decide +kernel)) ggX5_addGrade_X5_goesOn
theorem dX5_addGrade_0 : decode cX5_addGrade 0 = .ok (.aload_n 0, 1) := by decide +kernel
theorem dX5_addGrade_1 : decode cX5_addGrade 1 = .ok (.iload_n 1, 1) := by decide +kernel
theorem dX5_addGrade_2 : decode cX5_addGrade 2 = .ok (.bipush 40, 2) := by decide +kernel
theorem dX5_addGrade_4 : decode cX5_addGrade 4 = .ok (.sipush 200, 3) := by decide +kernel
theorem dX5_addGrade_7 : decode cX5_addGrade 7 = .ok (.invokestatic 64, 3) := by decide +kernel
theorem dX5_addGrade_10 : decode cX5_addGrade 10 = .ok (.ifCond .eq 11, 3) := by decide +kernel
theorem dX5_addGrade_13 : decode cX5_addGrade 13 = .ok (.aload_n 0, 1) := by decide +kernel
theorem dX5_addGrade_14 : decode cX5_addGrade 14 = .ok (.iload_n 1, 1) := by decide +kernel
theorem dX5_addGrade_15 : decode cX5_addGrade 15 = .ok (.invokevirtual 71, 3) := by decide +kernel
theorem dX5_addGrade_18 : decode cX5_addGrade 18 = .ok (.ifCond .eq 7, 3) := by decide +kernel
theorem dX5_addGrade_21 : decode cX5_addGrade 21 = .ok (.iconst 1, 1) := by decide +kernel
theorem dX5_addGrade_22 : decode cX5_addGrade 22 = .ok (.goto 17, 3) := by decide +kernel
theorem dX5_addGrade_25 : decode cX5_addGrade 25 = .ok (.aload_n 0, 1) := by decide +kernel
theorem dX5_addGrade_26 : decode cX5_addGrade 26 = .ok (.getfield 61, 3) := by decide +kernel
theorem dX5_addGrade_29 : decode cX5_addGrade 29 = .ok (.bipush 6, 2) := by decide +kernel
theorem dX5_addGrade_31 : decode cX5_addGrade 31 = .ok (.if_icmp .ne 7, 3) := by decide +kernel
theorem dX5_addGrade_34 : decode cX5_addGrade 34 = .ok (.iconst 2, 1) := by decide +kernel
theorem dX5_addGrade_35 : decode cX5_addGrade 35 = .ok (.goto 4, 3) := by decide +kernel
theorem dX5_addGrade_38 : decode cX5_addGrade 38 = .ok (.iconst 0, 1) := by decide +kernel
theorem dX5_addGrade_39 : decode cX5_addGrade 39 = .ok (.invokevirtual 75, 3) := by decide +kernel
theorem dX5_addGrade_42 : decode cX5_addGrade 42 = .ok (.ifCond .ne 5, 3) := by decide +kernel
theorem dX5_addGrade_45 : decode cX5_addGrade 45 = .ok (.iconst 0, 1) := by decide +kernel
theorem dX5_addGrade_46 : decode cX5_addGrade 46 = .ok (.ireturn, 1) := by decide +kernel
theorem dX5_addGrade_47 : decode cX5_addGrade 47 = .ok (.aload_n 0, 1) := by decide +kernel
theorem dX5_addGrade_48 : decode cX5_addGrade 48 = .ok (.getfield 9, 3) := by decide +kernel
theorem dX5_addGrade_51 : decode cX5_addGrade 51 = .ok (.aload_n 0, 1) := by decide +kernel
theorem dX5_addGrade_52 : decode cX5_addGrade 52 = .ok (.getfield 61, 3) := by decide +kernel
theorem dX5_addGrade_55 : decode cX5_addGrade 55 = .ok (.iload_n 1, 1) := by decide +kernel
theorem dX5_addGrade_56 : decode cX5_addGrade 56 = .ok (.iastore, 1) := by decide +kernel
theorem dX5_addGrade_57 : decode cX5_addGrade 57 = .ok (.aload_n 0, 1) := by decide +kernel
theorem dX5_addGrade_58 : decode cX5_addGrade 58 = .ok (.dup, 1) := by decide +kernel
theorem dX5_addGrade_59 : decode cX5_addGrade 59 = .ok (.getfield 61, 3) := by decide +kernel
theorem dX5_addGrade_62 : decode cX5_addGrade 62 = .ok (.iconst 1, 1) := by decide +kernel
theorem dX5_addGrade_63 : decode cX5_addGrade 63 = .ok (.iadd, 1) := by decide +kernel
theorem dX5_addGrade_64 : decode cX5_addGrade 64 = .ok (.putfield 61, 3) := by decide +kernel
theorem dX5_addGrade_67 : decode cX5_addGrade 67 = .ok (.aload_n 0, 1) := by decide +kernel
theorem dX5_addGrade_68 : decode cX5_addGrade 68 = .ok (.getfield 61, 3) := by decide +kernel
theorem dX5_addGrade_71 : decode cX5_addGrade 71 = .ok (.iconst 1, 1) := by decide +kernel
theorem dX5_addGrade_72 : decode cX5_addGrade 72 = .ok (.isub, 1) := by decide +kernel
theorem dX5_addGrade_73 : decode cX5_addGrade 73 = .ok (.ireturn, 1) := by decide +kernel
set_option maxRecDepth 20000 in
theorem ggX5_setWidth_X5_in : GoodIn wsX5_setWidth wsX5_in := goodIn_r _ [8] (by decide +kernel) (by decide +kernel)
set_option maxRecDepth 20000 in
theorem gX5_setWidth_X5_in : GoodIn wsX5_setWidth (va_wsS RX5 64 yX5_in wsX5_in) := goodIn_app (goodIn_of _ (by decide +kernel)) ggX5_setWidth_X5_in
set_option maxRecDepth 20000 in
theorem ggX5_setWidth_X5_goesOn : GoodIn wsX5_setWidth wsX5_goesOn := goodIn_r _ [12, 13, 14, 15, 16, 17, 18, 19, 20, 21, 22, 23, 24, 25, 26, 27, 28, 29, 30, 31, 32, 33, 34, 35, 36, 37, 38, 39, 40, 41, 42] (by decide +kernel) (by decide +kernel)
set_option maxRecDepth 20000 in
theorem gX5_setWidth_X5_goesOn : GoodIn wsX5_setWidth (wsV RX5 75 RX5 yX5_goesOn wsX5_goesOn) := goodIn_app (goodIn_of _ (by decide +kernel)) ggX5_setWidth_X5_goesOn
theorem dX5_setWidth_0 : decode cX5_setWidth 0 = .ok (.iconst 0, 1) := by decide +kernel
theorem dX5_setWidth_1 : decode cX5_setWidth 1 = .ok (.istore_n 2, 1) := by decide +kernel
theorem dX5_setWidth_2 : decode cX5_setWidth 2 = .ok (.iconst 0, 1) := by decide +kernel
theorem dX5_setWidth_3 : decode cX5_setWidth 3 = .ok (.istore_n 3, 1) := by decide +kernel
theorem dX5_setWidth_4 : decode cX5_setWidth 4 = .ok (.iload_n 3, 1) := by decide +kernel
theorem dX5_setWidth_5 : decode cX5_setWidth 5 = .ok (.aload_n 0, 1) := by decide +kernel
theorem dX5_setWidth_6 : decode cX5_setWidth 6 = .ok (.getfield 68, 3) := by decide +kernel
theorem dX5_setWidth_9 : decode cX5_setWidth 9 = .ok (.if_icmp .ge 38, 3) := by decide +kernel
theorem dX5_setWidth_12 : decode cX5_setWidth 12 = .ok (.iload_n 2, 1) := by decide +kernel
theorem dX5_setWidth_13 : decode cX5_setWidth 13 = .ok (.ifCond .ne 22, 3) := by decide +kernel
theorem dX5_setWidth_16 : decode cX5_setWidth 16 = .ok (.aload_n 0, 1) := by decide +kernel
theorem dX5_setWidth_17 : decode cX5_setWidth 17 = .ok (.getfield 30, 3) := by decide +kernel
theorem dX5_setWidth_20 : decode cX5_setWidth 20 = .ok (.iload_n 3, 1) := by decide +kernel
theorem dX5_setWidth_21 : decode cX5_setWidth 21 = .ok (.iaload, 1) := by decide +kernel
theorem dX5_setWidth_22 : decode cX5_setWidth 22 = .ok (.ifCond .le 17, 3) := by decide +kernel
theorem dX5_setWidth_25 : decode cX5_setWidth 25 = .ok (.aload_n 0, 1) := by decide +kernel
theorem dX5_setWidth_26 : decode cX5_setWidth 26 = .ok (.getfield 27, 3) := by decide +kernel
theorem dX5_setWidth_29 : decode cX5_setWidth 29 = .ok (.iload_n 3, 1) := by decide +kernel
theorem dX5_setWidth_30 : decode cX5_setWidth 30 = .ok (.iaload, 1) := by decide +kernel
theorem dX5_setWidth_31 : decode cX5_setWidth 31 = .ok (.iload_n 1, 1) := by decide +kernel
theorem dX5_setWidth_32 : decode cX5_setWidth 32 = .ok (.if_icmp .le 7, 3) := by decide +kernel
theorem dX5_setWidth_35 : decode cX5_setWidth 35 = .ok (.iconst 1, 1) := by decide +kernel
theorem dX5_setWidth_36 : decode cX5_setWidth 36 = .ok (.goto 4, 3) := by decide +kernel
theorem dX5_setWidth_39 : decode cX5_setWidth 39 = .ok (.iconst 0, 1) := by decide +kernel
theorem dX5_setWidth_40 : decode cX5_setWidth 40 = .ok (.istore_n 2, 1) := by decide +kernel
theorem dX5_setWidth_41 : decode cX5_setWidth 41 = .ok (.iinc 3 1, 3) := by decide +kernel
theorem dX5_setWidth_44 : decode cX5_setWidth 44 = .ok (.goto (-40), 3) := by decide +kernel
theorem dX5_setWidth_47 : decode cX5_setWidth 47 = .ok (.aload_n 0, 1) := by decide +kernel
theorem dX5_setWidth_48 : decode cX5_setWidth 48 = .ok (.iload_n 1, 1) := by decide +kernel
theorem dX5_setWidth_49 : decode cX5_setWidth 49 = .ok (.sipush 200, 3) := by decide +kernel
theorem dX5_setWidth_52 : decode cX5_setWidth 52 = .ok (.sipush 800, 3) := by decide +kernel
theorem dX5_setWidth_55 : decode cX5_setWidth 55 = .ok (.invokestatic 64, 3) := by decide +kernel
theorem dX5_setWidth_58 : decode cX5_setWidth 58 = .ok (.ifCond .ne 7, 3) := by decide +kernel
theorem dX5_setWidth_61 : decode cX5_setWidth 61 = .ok (.iconst 1, 1) := by decide +kernel
theorem dX5_setWidth_62 : decode cX5_setWidth 62 = .ok (.goto 12, 3) := by decide +kernel
theorem dX5_setWidth_65 : decode cX5_setWidth 65 = .ok (.iload_n 2, 1) := by decide +kernel
theorem dX5_setWidth_66 : decode cX5_setWidth 66 = .ok (.ifCond .eq 7, 3) := by decide +kernel
theorem dX5_setWidth_69 : decode cX5_setWidth 69 = .ok (.iconst 2, 1) := by decide +kernel
theorem dX5_setWidth_70 : decode cX5_setWidth 70 = .ok (.goto 4, 3) := by decide +kernel
theorem dX5_setWidth_73 : decode cX5_setWidth 73 = .ok (.iconst 0, 1) := by decide +kernel
theorem dX5_setWidth_74 : decode cX5_setWidth 74 = .ok (.invokevirtual 75, 3) := by decide +kernel
theorem dX5_setWidth_77 : decode cX5_setWidth 77 = .ok (.ifCond .ne 5, 3) := by decide +kernel
theorem dX5_setWidth_80 : decode cX5_setWidth 80 = .ok (.iconst 0, 1) := by decide +kernel
theorem dX5_setWidth_81 : decode cX5_setWidth 81 = .ok (.ireturn, 1) := by decide +kernel
theorem dX5_setWidth_82 : decode cX5_setWidth 82 = .ok (.aload_n 0, 1) := by decide +kernel
theorem dX5_setWidth_83 : decode cX5_setWidth 83 = .ok (.getfield 13, 3) := by decide +kernel
theorem dX5_setWidth_86 : decode cX5_setWidth 86 = .ok (.istore_n 3, 1) := by decide +kernel
theorem dX5_setWidth_87 : decode cX5_setWidth 87 = .ok (.aload_n 0, 1) := by decide +kernel
theorem dX5_setWidth_88 : decode cX5_setWidth 88 = .ok (.iload_n 1, 1) := by decide +kernel
theorem dX5_setWidth_89 : decode cX5_setWidth 89 = .ok (.putfield 13, 3) := by decide +kernel
theorem dX5_setWidth_92 : decode cX5_setWidth 92 = .ok (.iload_n 3, 1) := by decide +kernel
theorem dX5_setWidth_93 : decode cX5_setWidth 93 = .ok (.ireturn, 1) := by decide +kernel
set_option maxRecDepth 20000 in
theorem ggX5_change_X5_isGrade : GoodIn wsX5_change wsX5_isGrade := goodIn_r _ [9, 10, 11, 12, 8, 13, 19, 20, 21, 22, 23, 24, 25, 26, 27, 28, 29, 30, 31, 32, 33, 34, 35, 36, 37, 38, 39, 40, 41, 42, 43, 44, 45, 46, 47] (by decide +kernel) (by decide +kernel)
set_option maxRecDepth 20000 in
theorem gX5_change_X5_isGrade : GoodIn wsX5_change (wsV RX5 78 RX5 yX5_isGrade wsX5_isGrade) := goodIn_app (goodIn_of _ (by decide +kernel)) ggX5_change_X5_isGrade
set_option maxRecDepth 20000 in
theorem ggX5_change_X5_goesOn : GoodIn wsX5_change wsX5_goesOn := goodIn_r _ [17, 18, 19, 20, 21, 22, 23, 24, 25, 26, 27, 28, 29, 30, 31, 32, 33, 34, 35, 36, 37, 38, 39, 40, 41, 42, 43, 44, 45, 46, 47] (by decide +kernel) (by decide +kernel)
set_option maxRecDepth 20000 in
theorem gX5_change_X5_goesOn : GoodIn wsX5_change (wsV RX5 75 RX5 yX5_goesOn wsX5_goesOn) := goodIn_app (goodIn_of _ (by decide +kernel)) ggX5_change_X5_goesOn
theorem dX5_change_0 : decode cX5_change 0 = .ok (.aload_n 0, 1) := by decide +kernel
theorem dX5_change_1 : decode cX5_change 1 = .ok (.aload_n 0, 1) := by decide +kernel
theorem dX5_change_2 : decode cX5_change 2 = .ok (.iload_n 1, 1) := by decide +kernel
theorem dX5_change_3 : decode cX5_change 3 = .ok (.invokevirtual 78, 3) := by decide +kernel
theorem dX5_change_6 : decode cX5_change 6 = .ok (.ifCond .ne 7, 3) := by decide +kernel
theorem dX5_change_9 : decode cX5_change 9 = .ok (.iconst 1, 1) := by decide +kernel
theorem dX5_change_10 : decode cX5_change 10 = .ok (.goto 27, 3) := by decide +kernel
theorem dX5_change_13 : decode cX5_change 13 = .ok (.iload_n 1, 1) := by decide +kernel
theorem dX5_change_14 : decode cX5_change 14 = .ok (.aload_n 0, 1) := by decide +kernel
theorem dX5_change_15 : decode cX5_change 15 = .ok (.getfield 17, 3) := by decide +kernel
theorem dX5_change_18 : decode cX5_change 18 = .ok (.if_icmp .ne 7, 3) := by decide +kernel
theorem dX5_change_21 : decode cX5_change 21 = .ok (.iconst 2, 1) := by decide +kernel
theorem dX5_change_22 : decode cX5_change 22 = .ok (.goto 15, 3) := by decide +kernel
theorem dX5_change_25 : decode cX5_change 25 = .ok (.aload_n 0, 1) := by decide +kernel
theorem dX5_change_26 : decode cX5_change 26 = .ok (.getfield 81, 3) := by decide +kernel
theorem dX5_change_29 : decode cX5_change 29 = .ok (.ifCond .le 7, 3) := by decide +kernel
theorem dX5_change_32 : decode cX5_change 32 = .ok (.iconst 3, 1) := by decide +kernel
theorem dX5_change_33 : decode cX5_change 33 = .ok (.goto 4, 3) := by decide +kernel
theorem dX5_change_36 : decode cX5_change 36 = .ok (.iconst 0, 1) := by decide +kernel
theorem dX5_change_37 : decode cX5_change 37 = .ok (.invokevirtual 75, 3) := by decide +kernel
theorem dX5_change_40 : decode cX5_change 40 = .ok (.ifCond .ne 5, 3) := by decide +kernel
theorem dX5_change_43 : decode cX5_change 43 = .ok (.iconst 0, 1) := by decide +kernel
theorem dX5_change_44 : decode cX5_change 44 = .ok (.ireturn, 1) := by decide +kernel
theorem dX5_change_45 : decode cX5_change 45 = .ok (.aload_n 0, 1) := by decide +kernel
theorem dX5_change_46 : decode cX5_change 46 = .ok (.iconst 1, 1) := by decide +kernel
theorem dX5_change_47 : decode cX5_change 47 = .ok (.putfield 81, 3) := by decide +kernel
theorem dX5_change_50 : decode cX5_change 50 = .ok (.aload_n 0, 1) := by decide +kernel
theorem dX5_change_51 : decode cX5_change 51 = .ok (.getfield 17, 3) := by decide +kernel
theorem dX5_change_54 : decode cX5_change 54 = .ok (.iconst (-1), 1) := by decide +kernel
theorem dX5_change_55 : decode cX5_change 55 = .ok (.if_icmp .eq 55, 3) := by decide +kernel
theorem dX5_change_58 : decode cX5_change 58 = .ok (.aload_n 0, 1) := by decide +kernel
theorem dX5_change_59 : decode cX5_change 59 = .ok (.getfield 9, 3) := by decide +kernel
theorem dX5_change_62 : decode cX5_change 62 = .ok (.iload_n 1, 1) := by decide +kernel
theorem dX5_change_63 : decode cX5_change 63 = .ok (.iaload, 1) := by decide +kernel
theorem dX5_change_64 : decode cX5_change 64 = .ok (.aload_n 0, 1) := by decide +kernel
theorem dX5_change_65 : decode cX5_change 65 = .ok (.getfield 9, 3) := by decide +kernel
theorem dX5_change_68 : decode cX5_change 68 = .ok (.aload_n 0, 1) := by decide +kernel
theorem dX5_change_69 : decode cX5_change 69 = .ok (.getfield 17, 3) := by decide +kernel
theorem dX5_change_72 : decode cX5_change 72 = .ok (.iaload, 1) := by decide +kernel
theorem dX5_change_73 : decode cX5_change 73 = .ok (.isub, 1) := by decide +kernel
theorem dX5_change_74 : decode cX5_change 74 = .ok (.istore_n 2, 1) := by decide +kernel
theorem dX5_change_75 : decode cX5_change 75 = .ok (.aload_n 0, 1) := by decide +kernel
theorem dX5_change_76 : decode cX5_change 76 = .ok (.iload_n 2, 1) := by decide +kernel
theorem dX5_change_77 : decode cX5_change 77 = .ok (.ifCond .le 7, 3) := by decide +kernel
theorem dX5_change_80 : decode cX5_change 80 = .ok (.iconst 1, 1) := by decide +kernel
theorem dX5_change_81 : decode cX5_change 81 = .ok (.goto 4, 3) := by decide +kernel
theorem dX5_change_84 : decode cX5_change 84 = .ok (.iconst 0, 1) := by decide +kernel
theorem dX5_change_85 : decode cX5_change 85 = .ok (.putfield 20, 3) := by decide +kernel
theorem dX5_change_88 : decode cX5_change 88 = .ok (.aload_n 0, 1) := by decide +kernel
theorem dX5_change_89 : decode cX5_change 89 = .ok (.dup, 1) := by decide +kernel
theorem dX5_change_90 : decode cX5_change 90 = .ok (.getfield 81, 3) := by decide +kernel
theorem dX5_change_93 : decode cX5_change 93 = .ok (.iload_n 2, 1) := by decide +kernel
theorem dX5_change_94 : decode cX5_change 94 = .ok (.ifCond .ge 8, 3) := by decide +kernel
theorem dX5_change_97 : decode cX5_change 97 = .ok (.iload_n 2, 1) := by decide +kernel
theorem dX5_change_98 : decode cX5_change 98 = .ok (.ineg, 1) := by decide +kernel
theorem dX5_change_99 : decode cX5_change 99 = .ok (.goto 4, 3) := by decide +kernel
theorem dX5_change_102 : decode cX5_change 102 = .ok (.iload_n 2, 1) := by decide +kernel
theorem dX5_change_103 : decode cX5_change 103 = .ok (.bipush 40, 2) := by decide +kernel
theorem dX5_change_105 : decode cX5_change 105 = .ok (.idiv, 1) := by decide +kernel
theorem dX5_change_106 : decode cX5_change 106 = .ok (.iadd, 1) := by decide +kernel
theorem dX5_change_107 : decode cX5_change 107 = .ok (.putfield 81, 3) := by decide +kernel
theorem dX5_change_110 : decode cX5_change 110 = .ok (.aload_n 0, 1) := by decide +kernel
theorem dX5_change_111 : decode cX5_change 111 = .ok (.iload_n 1, 1) := by decide +kernel
theorem dX5_change_112 : decode cX5_change 112 = .ok (.putfield 17, 3) := by decide +kernel
theorem dX5_change_115 : decode cX5_change 115 = .ok (.aload_n 0, 1) := by decide +kernel
theorem dX5_change_116 : decode cX5_change 116 = .ok (.getfield 81, 3) := by decide +kernel
theorem dX5_change_119 : decode cX5_change 119 = .ok (.ireturn, 1) := by decide +kernel
set_option maxRecDepth 20000 in
theorem ggX5_grade_X5_goesOn : GoodIn wsX5_grade wsX5_goesOn := goodIn_r _ [6, 7, 8, 9, 10, 11, 12, 13, 14, 15, 16, 17, 18, 19, 20, 21, 22, 23, 24, 25, 26, 27, 28, 29, 30, 31, 32, 33, 34, 35, 36] (by decide +kernel) (by decide +kernel)
set_option maxRecDepth 20000 in
theorem gX5_grade_X5_goesOn : GoodIn wsX5_grade (wsV RX5 75 RX5 yX5_goesOn wsX5_goesOn) := goodIn_app (goodIn_of _ (by decide +kernel)) ggX5_grade_X5_goesOn
theorem dX5_grade_0 : decode cX5_grade 0 = .ok (.aload_n 0, 1) := by decide +kernel
theorem dX5_grade_1 : decode cX5_grade 1 = .ok (.aload_n 0, 1) := by decide +kernel
theorem dX5_grade_2 : decode cX5_grade 2 = .ok (.getfield 17, 3) := by decide +kernel
theorem dX5_grade_5 : decode cX5_grade 5 = .ok (.iconst (-1), 1) := by decide +kernel
theorem dX5_grade_6 : decode cX5_grade 6 = .ok (.if_icmp .ne 7, 3) := by decide +kernel
theorem dX5_grade_9 : decode cX5_grade 9 = .ok (.iconst 1, 1) := by decide +kernel
theorem dX5_grade_10 : decode cX5_grade 10 = .ok (.goto 4, 3) := by decide +kernel
theorem dX5_grade_13 : decode cX5_grade 13 = .ok (.iconst 0, 1) := by decide +kernel
theorem dX5_grade_14 : decode cX5_grade 14 = .ok (.invokevirtual 75, 3) := by decide +kernel
theorem dX5_grade_17 : decode cX5_grade 17 = .ok (.ifCond .eq 10, 3) := by decide +kernel
theorem dX5_grade_20 : decode cX5_grade 20 = .ok (.aload_n 0, 1) := by decide +kernel
theorem dX5_grade_21 : decode cX5_grade 21 = .ok (.getfield 17, 3) := by decide +kernel
theorem dX5_grade_24 : decode cX5_grade 24 = .ok (.goto 4, 3) := by decide +kernel
theorem dX5_grade_27 : decode cX5_grade 27 = .ok (.iconst 0, 1) := by decide +kernel
theorem dX5_grade_28 : decode cX5_grade 28 = .ok (.ireturn, 1) := by decide +kernel
theorem dX5_changing_0 : decode cX5_changing 0 = .ok (.aload_n 0, 1) := by decide +kernel
theorem dX5_changing_1 : decode cX5_changing 1 = .ok (.iconst 0, 1) := by decide +kernel
theorem dX5_changing_2 : decode cX5_changing 2 = .ok (.putfield 58, 3) := by decide +kernel
theorem dX5_changing_5 : decode cX5_changing 5 = .ok (.aload_n 0, 1) := by decide +kernel
theorem dX5_changing_6 : decode cX5_changing 6 = .ok (.getfield 81, 3) := by decide +kernel
theorem dX5_changing_9 : decode cX5_changing 9 = .ok (.ireturn, 1) := by decide +kernel
theorem dX5_hasOrders_0 : decode cX5_hasOrders 0 = .ok (.iconst 0, 1) := by decide +kernel
theorem dX5_hasOrders_1 : decode cX5_hasOrders 1 = .ok (.istore_n 2, 1) := by decide +kernel
theorem dX5_hasOrders_2 : decode cX5_hasOrders 2 = .ok (.iconst 0, 1) := by decide +kernel
theorem dX5_hasOrders_3 : decode cX5_hasOrders 3 = .ok (.istore_n 3, 1) := by decide +kernel
theorem dX5_hasOrders_4 : decode cX5_hasOrders 4 = .ok (.iload_n 3, 1) := by decide +kernel
theorem dX5_hasOrders_5 : decode cX5_hasOrders 5 = .ok (.aload_n 0, 1) := by decide +kernel
theorem dX5_hasOrders_6 : decode cX5_hasOrders 6 = .ok (.getfield 68, 3) := by decide +kernel
theorem dX5_hasOrders_9 : decode cX5_hasOrders 9 = .ok (.if_icmp .ge 38, 3) := by decide +kernel
theorem dX5_hasOrders_12 : decode cX5_hasOrders 12 = .ok (.iload_n 2, 1) := by decide +kernel
theorem dX5_hasOrders_13 : decode cX5_hasOrders 13 = .ok (.ifCond .ne 22, 3) := by decide +kernel
theorem dX5_hasOrders_16 : decode cX5_hasOrders 16 = .ok (.aload_n 0, 1) := by decide +kernel
theorem dX5_hasOrders_17 : decode cX5_hasOrders 17 = .ok (.getfield 24, 3) := by decide +kernel
theorem dX5_hasOrders_20 : decode cX5_hasOrders 20 = .ok (.iload_n 3, 1) := by decide +kernel
theorem dX5_hasOrders_21 : decode cX5_hasOrders 21 = .ok (.iaload, 1) := by decide +kernel
theorem dX5_hasOrders_22 : decode cX5_hasOrders 22 = .ok (.iload_n 1, 1) := by decide +kernel
theorem dX5_hasOrders_23 : decode cX5_hasOrders 23 = .ok (.if_icmp .ne 16, 3) := by decide +kernel
theorem dX5_hasOrders_26 : decode cX5_hasOrders 26 = .ok (.aload_n 0, 1) := by decide +kernel
theorem dX5_hasOrders_27 : decode cX5_hasOrders 27 = .ok (.getfield 30, 3) := by decide +kernel
theorem dX5_hasOrders_30 : decode cX5_hasOrders 30 = .ok (.iload_n 3, 1) := by decide +kernel
theorem dX5_hasOrders_31 : decode cX5_hasOrders 31 = .ok (.iaload, 1) := by decide +kernel
theorem dX5_hasOrders_32 : decode cX5_hasOrders 32 = .ok (.ifCond .le 7, 3) := by decide +kernel
theorem dX5_hasOrders_35 : decode cX5_hasOrders 35 = .ok (.iconst 1, 1) := by decide +kernel
theorem dX5_hasOrders_36 : decode cX5_hasOrders 36 = .ok (.goto 4, 3) := by decide +kernel
theorem dX5_hasOrders_39 : decode cX5_hasOrders 39 = .ok (.iconst 0, 1) := by decide +kernel
theorem dX5_hasOrders_40 : decode cX5_hasOrders 40 = .ok (.istore_n 2, 1) := by decide +kernel
theorem dX5_hasOrders_41 : decode cX5_hasOrders 41 = .ok (.iinc 3 1, 3) := by decide +kernel
theorem dX5_hasOrders_44 : decode cX5_hasOrders 44 = .ok (.goto (-40), 3) := by decide +kernel
theorem dX5_hasOrders_47 : decode cX5_hasOrders 47 = .ok (.iload_n 2, 1) := by decide +kernel
theorem dX5_hasOrders_48 : decode cX5_hasOrders 48 = .ok (.ireturn, 1) := by decide +kernel
set_option maxRecDepth 20000 in
theorem ggX5_nextFrom_X5_hasOrders : GoodIn wsX5_nextFrom wsX5_hasOrders := goodIn_ca (goodIn_r _ [7, 8, 9, 10, 11, 12, 13, 14, 15, 16, 17, 18, 19, 20, 21, 22, 23, 24, 25, 26, 27, 28, 29, 30, 31, 32, 33, 34, 35, 36, 37, 38, 39] (by decide +kernel) (by decide +kernel)) (goodIn_sub (fun _ h => List.mem_cons_of_mem _ (List.mem_append_right _ h)) (by decide +kernel))
set_option maxRecDepth 20000 in
theorem gX5_nextFrom_X5_hasOrders : GoodIn wsX5_nextFrom (wsV RX5 84 RX5 yX5_hasOrders wsX5_hasOrders) := goodIn_app (goodIn_of _ (by decide +kernel)) ggX5_nextFrom_X5_hasOrders
theorem dX5_nextFrom_0 : decode cX5_nextFrom 0 = .ok (.iconst (-1), 1) := by decide +kernel
theorem dX5_nextFrom_1 : decode cX5_nextFrom 1 = .ok (.istore_n 3, 1) := by decide +kernel
theorem dX5_nextFrom_2 : decode cX5_nextFrom 2 = .ok (.iconst 0, 1) := by decide +kernel
theorem dX5_nextFrom_3 : decode cX5_nextFrom 3 = .ok (.istore 4, 2) := by decide +kernel
theorem dX5_nextFrom_5 : decode cX5_nextFrom 5 = .ok (.iload 4, 2) := by decide +kernel
theorem dX5_nextFrom_7 : decode cX5_nextFrom 7 = .ok (.aload_n 0, 1) := by decide +kernel
theorem dX5_nextFrom_8 : decode cX5_nextFrom 8 = .ok (.getfield 61, 3) := by decide +kernel
theorem dX5_nextFrom_11 : decode cX5_nextFrom 11 = .ok (.if_icmp .ge 122, 3) := by decide +kernel
theorem dX5_nextFrom_14 : decode cX5_nextFrom 14 = .ok (.aload_n 0, 1) := by decide +kernel
theorem dX5_nextFrom_15 : decode cX5_nextFrom 15 = .ok (.iload 4, 2) := by decide +kernel
theorem dX5_nextFrom_17 : decode cX5_nextFrom 17 = .ok (.invokevirtual 84, 3) := by decide +kernel
theorem dX5_nextFrom_20 : decode cX5_nextFrom 20 = .ok (.ifCond .eq 36, 3) := by decide +kernel
theorem dX5_nextFrom_23 : decode cX5_nextFrom 23 = .ok (.iload_n 2, 1) := by decide +kernel
theorem dX5_nextFrom_24 : decode cX5_nextFrom 24 = .ok (.ifCond .eq 17, 3) := by decide +kernel
theorem dX5_nextFrom_27 : decode cX5_nextFrom 27 = .ok (.aload_n 0, 1) := by decide +kernel
theorem dX5_nextFrom_28 : decode cX5_nextFrom 28 = .ok (.getfield 9, 3) := by decide +kernel
theorem dX5_nextFrom_31 : decode cX5_nextFrom 31 = .ok (.iload 4, 2) := by decide +kernel
theorem dX5_nextFrom_33 : decode cX5_nextFrom 33 = .ok (.iaload, 1) := by decide +kernel
theorem dX5_nextFrom_34 : decode cX5_nextFrom 34 = .ok (.iload_n 1, 1) := by decide +kernel
theorem dX5_nextFrom_35 : decode cX5_nextFrom 35 = .ok (.if_icmp .le 21, 3) := by decide +kernel
theorem dX5_nextFrom_38 : decode cX5_nextFrom 38 = .ok (.goto 14, 3) := by decide +kernel
theorem dX5_nextFrom_41 : decode cX5_nextFrom 41 = .ok (.aload_n 0, 1) := by decide +kernel
theorem dX5_nextFrom_42 : decode cX5_nextFrom 42 = .ok (.getfield 9, 3) := by decide +kernel
theorem dX5_nextFrom_45 : decode cX5_nextFrom 45 = .ok (.iload 4, 2) := by decide +kernel
theorem dX5_nextFrom_47 : decode cX5_nextFrom 47 = .ok (.iaload, 1) := by decide +kernel
theorem dX5_nextFrom_48 : decode cX5_nextFrom 48 = .ok (.iload_n 1, 1) := by decide +kernel
theorem dX5_nextFrom_49 : decode cX5_nextFrom 49 = .ok (.if_icmp .ge 7, 3) := by decide +kernel
theorem dX5_nextFrom_52 : decode cX5_nextFrom 52 = .ok (.iconst 1, 1) := by decide +kernel
theorem dX5_nextFrom_53 : decode cX5_nextFrom 53 = .ok (.goto 4, 3) := by decide +kernel
theorem dX5_nextFrom_56 : decode cX5_nextFrom 56 = .ok (.iconst 0, 1) := by decide +kernel
theorem dX5_nextFrom_57 : decode cX5_nextFrom 57 = .ok (.istore 5, 2) := by decide +kernel
theorem dX5_nextFrom_59 : decode cX5_nextFrom 59 = .ok (.iload_n 3, 1) := by decide +kernel
theorem dX5_nextFrom_60 : decode cX5_nextFrom 60 = .ok (.iconst (-1), 1) := by decide +kernel
theorem dX5_nextFrom_61 : decode cX5_nextFrom 61 = .ok (.if_icmp .eq 42, 3) := by decide +kernel
theorem dX5_nextFrom_64 : decode cX5_nextFrom 64 = .ok (.iload_n 2, 1) := by decide +kernel
theorem dX5_nextFrom_65 : decode cX5_nextFrom 65 = .ok (.ifCond .eq 22, 3) := by decide +kernel
theorem dX5_nextFrom_68 : decode cX5_nextFrom 68 = .ok (.aload_n 0, 1) := by decide +kernel
theorem dX5_nextFrom_69 : decode cX5_nextFrom 69 = .ok (.getfield 9, 3) := by decide +kernel
theorem dX5_nextFrom_72 : decode cX5_nextFrom 72 = .ok (.iload 4, 2) := by decide +kernel
theorem dX5_nextFrom_74 : decode cX5_nextFrom 74 = .ok (.iaload, 1) := by decide +kernel
theorem dX5_nextFrom_75 : decode cX5_nextFrom 75 = .ok (.aload_n 0, 1) := by decide +kernel
theorem dX5_nextFrom_76 : decode cX5_nextFrom 76 = .ok (.getfield 9, 3) := by decide +kernel
theorem dX5_nextFrom_79 : decode cX5_nextFrom 79 = .ok (.iload_n 3, 1) := by decide +kernel
theorem dX5_nextFrom_80 : decode cX5_nextFrom 80 = .ok (.iaload, 1) := by decide +kernel
theorem dX5_nextFrom_81 : decode cX5_nextFrom 81 = .ok (.if_icmp .ge 26, 3) := by decide +kernel
theorem dX5_nextFrom_84 : decode cX5_nextFrom 84 = .ok (.goto 19, 3) := by decide +kernel
theorem dX5_nextFrom_87 : decode cX5_nextFrom 87 = .ok (.aload_n 0, 1) := by decide +kernel
theorem dX5_nextFrom_88 : decode cX5_nextFrom 88 = .ok (.getfield 9, 3) := by decide +kernel
theorem dX5_nextFrom_91 : decode cX5_nextFrom 91 = .ok (.iload 4, 2) := by decide +kernel
theorem dX5_nextFrom_93 : decode cX5_nextFrom 93 = .ok (.iaload, 1) := by decide +kernel
theorem dX5_nextFrom_94 : decode cX5_nextFrom 94 = .ok (.aload_n 0, 1) := by decide +kernel
theorem dX5_nextFrom_95 : decode cX5_nextFrom 95 = .ok (.getfield 9, 3) := by decide +kernel
theorem dX5_nextFrom_98 : decode cX5_nextFrom 98 = .ok (.iload_n 3, 1) := by decide +kernel
theorem dX5_nextFrom_99 : decode cX5_nextFrom 99 = .ok (.iaload, 1) := by decide +kernel
theorem dX5_nextFrom_100 : decode cX5_nextFrom 100 = .ok (.if_icmp .le 7, 3) := by decide +kernel
theorem dX5_nextFrom_103 : decode cX5_nextFrom 103 = .ok (.iconst 1, 1) := by decide +kernel
theorem dX5_nextFrom_104 : decode cX5_nextFrom 104 = .ok (.goto 4, 3) := by decide +kernel
theorem dX5_nextFrom_107 : decode cX5_nextFrom 107 = .ok (.iconst 0, 1) := by decide +kernel
theorem dX5_nextFrom_108 : decode cX5_nextFrom 108 = .ok (.istore 6, 2) := by decide +kernel
theorem dX5_nextFrom_110 : decode cX5_nextFrom 110 = .ok (.iload 5, 2) := by decide +kernel
theorem dX5_nextFrom_112 : decode cX5_nextFrom 112 = .ok (.ifCond .eq 13, 3) := by decide +kernel
theorem dX5_nextFrom_115 : decode cX5_nextFrom 115 = .ok (.iload 6, 2) := by decide +kernel
theorem dX5_nextFrom_117 : decode cX5_nextFrom 117 = .ok (.ifCond .eq 8, 3) := by decide +kernel
theorem dX5_nextFrom_120 : decode cX5_nextFrom 120 = .ok (.iload 4, 2) := by decide +kernel
theorem dX5_nextFrom_122 : decode cX5_nextFrom 122 = .ok (.goto 4, 3) := by decide +kernel
theorem dX5_nextFrom_125 : decode cX5_nextFrom 125 = .ok (.iload_n 3, 1) := by decide +kernel
theorem dX5_nextFrom_126 : decode cX5_nextFrom 126 = .ok (.istore_n 3, 1) := by decide +kernel
theorem dX5_nextFrom_127 : decode cX5_nextFrom 127 = .ok (.iinc 4 1, 3) := by decide +kernel
theorem dX5_nextFrom_130 : decode cX5_nextFrom 130 = .ok (.goto (-125), 3) := by decide +kernel
theorem dX5_nextFrom_133 : decode cX5_nextFrom 133 = .ok (.iload_n 3, 1) := by decide +kernel
theorem dX5_nextFrom_134 : decode cX5_nextFrom 134 = .ok (.ireturn, 1) := by decide +kernel
set_option maxRecDepth 20000 in
theorem ggX5_next_X5_nextFrom : GoodIn wsX5_next wsX5_nextFrom := goodIn_ca (goodIn_r _ [8, 9, 2, 10, 11, 12, 7, 13, 14, 15, 16, 22, 23, 24, 25, 26, 27, 28, 29, 30, 31, 32, 33, 34, 35, 36, 37, 38, 39, 40, 41, 42, 43, 44, 45, 46, 47, 48, 49, 50] (by decide +kernel) (by decide +kernel)) (goodIn_sub (fun _ h => List.mem_cons_of_mem _ (List.mem_append_right _ h)) (by decide +kernel))
set_option maxRecDepth 20000 in
theorem gX5_next_X5_nextFrom : GoodIn wsX5_next (wsV RX5 87 RX5 yX5_nextFrom wsX5_nextFrom) := goodIn_app (goodIn_of _ (by decide +kernel)) ggX5_next_X5_nextFrom
set_option maxRecDepth 20000 in
theorem ggX5_next_X5_goesOn : GoodIn wsX5_next wsX5_goesOn := goodIn_r _ [20, 21, 22, 23, 24, 25, 26, 27, 28, 29, 30, 31, 32, 33, 34, 35, 36, 37, 38, 39, 40, 41, 42, 43, 44, 45, 46, 47, 48, 49, 50] (by decide +kernel) (by decide +kernel)
set_option maxRecDepth 20000 in
theorem gX5_next_X5_goesOn : GoodIn wsX5_next (wsV RX5 75 RX5 yX5_goesOn wsX5_goesOn) := goodIn_app (goodIn_of _ (by decide +kernel)) ggX5_next_X5_goesOn
theorem dX5_next_0 : decode cX5_next 0 = .ok (.aload_n 0, 1) := by decide +kernel
theorem dX5_next_1 : decode cX5_next 1 = .ok (.aload_n 0, 1) := by decide +kernel
theorem dX5_next_2 : decode cX5_next 2 = .ok (.getfield 17, 3) := by decide +kernel
theorem dX5_next_5 : decode cX5_next 5 = .ok (.iconst (-1), 1) := by decide +kernel
theorem dX5_next_6 : decode cX5_next 6 = .ok (.if_icmp .ne 7, 3) := by decide +kernel
theorem dX5_next_9 : decode cX5_next 9 = .ok (.iconst 0, 1) := by decide +kernel
theorem dX5_next_10 : decode cX5_next 10 = .ok (.goto 12, 3) := by decide +kernel
theorem dX5_next_13 : decode cX5_next 13 = .ok (.aload_n 0, 1) := by decide +kernel
theorem dX5_next_14 : decode cX5_next 14 = .ok (.getfield 9, 3) := by decide +kernel
theorem dX5_next_17 : decode cX5_next 17 = .ok (.aload_n 0, 1) := by decide +kernel
theorem dX5_next_18 : decode cX5_next 18 = .ok (.getfield 17, 3) := by decide +kernel
theorem dX5_next_21 : decode cX5_next 21 = .ok (.iaload, 1) := by decide +kernel
theorem dX5_next_22 : decode cX5_next 22 = .ok (.aload_n 0, 1) := by decide +kernel
theorem dX5_next_23 : decode cX5_next 23 = .ok (.getfield 20, 3) := by decide +kernel
theorem dX5_next_26 : decode cX5_next 26 = .ok (.invokevirtual 87, 3) := by decide +kernel
theorem dX5_next_29 : decode cX5_next 29 = .ok (.istore_n 1, 1) := by decide +kernel
theorem dX5_next_30 : decode cX5_next 30 = .ok (.iload_n 1, 1) := by decide +kernel
theorem dX5_next_31 : decode cX5_next 31 = .ok (.iconst (-1), 1) := by decide +kernel
theorem dX5_next_32 : decode cX5_next 32 = .ok (.if_icmp .ne 39, 3) := by decide +kernel
theorem dX5_next_35 : decode cX5_next 35 = .ok (.aload_n 0, 1) := by decide +kernel
theorem dX5_next_36 : decode cX5_next 36 = .ok (.getfield 17, 3) := by decide +kernel
theorem dX5_next_39 : decode cX5_next 39 = .ok (.iconst (-1), 1) := by decide +kernel
theorem dX5_next_40 : decode cX5_next 40 = .ok (.if_icmp .eq 31, 3) := by decide +kernel
theorem dX5_next_43 : decode cX5_next 43 = .ok (.aload_n 0, 1) := by decide +kernel
theorem dX5_next_44 : decode cX5_next 44 = .ok (.aload_n 0, 1) := by decide +kernel
theorem dX5_next_45 : decode cX5_next 45 = .ok (.getfield 9, 3) := by decide +kernel
theorem dX5_next_48 : decode cX5_next 48 = .ok (.aload_n 0, 1) := by decide +kernel
theorem dX5_next_49 : decode cX5_next 49 = .ok (.getfield 17, 3) := by decide +kernel
theorem dX5_next_52 : decode cX5_next 52 = .ok (.iaload, 1) := by decide +kernel
theorem dX5_next_53 : decode cX5_next 53 = .ok (.aload_n 0, 1) := by decide +kernel
theorem dX5_next_54 : decode cX5_next 54 = .ok (.getfield 20, 3) := by decide +kernel
theorem dX5_next_57 : decode cX5_next 57 = .ok (.ifCond .ne 7, 3) := by decide +kernel
theorem dX5_next_60 : decode cX5_next 60 = .ok (.iconst 1, 1) := by decide +kernel
theorem dX5_next_61 : decode cX5_next 61 = .ok (.goto 4, 3) := by decide +kernel
theorem dX5_next_64 : decode cX5_next 64 = .ok (.iconst 0, 1) := by decide +kernel
theorem dX5_next_65 : decode cX5_next 65 = .ok (.invokevirtual 87, 3) := by decide +kernel
theorem dX5_next_68 : decode cX5_next 68 = .ok (.goto 4, 3) := by decide +kernel
theorem dX5_next_71 : decode cX5_next 71 = .ok (.iload_n 1, 1) := by decide +kernel
theorem dX5_next_72 : decode cX5_next 72 = .ok (.istore_n 1, 1) := by decide +kernel
theorem dX5_next_73 : decode cX5_next 73 = .ok (.aload_n 0, 1) := by decide +kernel
theorem dX5_next_74 : decode cX5_next 74 = .ok (.iload_n 1, 1) := by decide +kernel
theorem dX5_next_75 : decode cX5_next 75 = .ok (.iconst (-1), 1) := by decide +kernel
theorem dX5_next_76 : decode cX5_next 76 = .ok (.if_icmp .ne 7, 3) := by decide +kernel
theorem dX5_next_79 : decode cX5_next 79 = .ok (.iconst 1, 1) := by decide +kernel
theorem dX5_next_80 : decode cX5_next 80 = .ok (.goto 4, 3) := by decide +kernel
theorem dX5_next_83 : decode cX5_next 83 = .ok (.iconst 0, 1) := by decide +kernel
theorem dX5_next_84 : decode cX5_next 84 = .ok (.invokevirtual 75, 3) := by decide +kernel
theorem dX5_next_87 : decode cX5_next 87 = .ok (.ifCond .eq 7, 3) := by decide +kernel
theorem dX5_next_90 : decode cX5_next 90 = .ok (.iload_n 1, 1) := by decide +kernel
theorem dX5_next_91 : decode cX5_next 91 = .ok (.goto 4, 3) := by decide +kernel
theorem dX5_next_94 : decode cX5_next 94 = .ok (.iconst 0, 1) := by decide +kernel
theorem dX5_next_95 : decode cX5_next 95 = .ok (.ireturn, 1) := by decide +kernel
theorem dX5_massOf_0 : decode cX5_massOf 0 = .ok (.aload_n 0, 1) := by decide +kernel
theorem dX5_massOf_1 : decode cX5_massOf 1 = .ok (.getfield 9, 3) := by decide +kernel
theorem dX5_massOf_4 : decode cX5_massOf 4 = .ok (.iload_n 1, 1) := by decide +kernel
theorem dX5_massOf_5 : decode cX5_massOf 5 = .ok (.iaload, 1) := by decide +kernel
theorem dX5_massOf_6 : decode cX5_massOf 6 = .ok (.aload_n 0, 1) := by decide +kernel
theorem dX5_massOf_7 : decode cX5_massOf 7 = .ok (.getfield 13, 3) := by decide +kernel
theorem dX5_massOf_10 : decode cX5_massOf 10 = .ok (.imul, 1) := by decide +kernel
theorem dX5_massOf_11 : decode cX5_massOf 11 = .ok (.bipush 10, 2) := by decide +kernel
theorem dX5_massOf_13 : decode cX5_massOf 13 = .ok (.idiv, 1) := by decide +kernel
theorem dX5_massOf_14 : decode cX5_massOf 14 = .ok (.ireturn, 1) := by decide +kernel
set_option maxRecDepth 20000 in
theorem ggX5_mass_X5_isGrade : GoodIn wsX5_mass wsX5_isGrade := goodIn_r _ [5, 6, 7, 8, 4, 9, 21, 22, 23, 24, 25, 26, 27, 28, 29, 30, 31, 32, 33, 34, 35, 36, 37, 38, 39, 40, 41, 42, 43, 44, 45, 46, 47, 48, 49] (by decide +kernel) (by decide +kernel)
set_option maxRecDepth 20000 in
theorem gX5_mass_X5_isGrade : GoodIn wsX5_mass (wsV RX5 78 RX5 yX5_isGrade wsX5_isGrade) := goodIn_app (goodIn_of _ (by decide +kernel)) ggX5_mass_X5_isGrade
set_option maxRecDepth 20000 in
theorem ggX5_mass_X5_goesOn : GoodIn wsX5_mass wsX5_goesOn := goodIn_r _ [13, 14, 21, 22, 23, 24, 25, 26, 27, 28, 29, 30, 31, 32, 33, 34, 35, 36, 37, 38, 39, 40, 41, 42, 43, 44, 45, 46, 47, 48, 49] (by decide +kernel) (by decide +kernel)
set_option maxRecDepth 20000 in
theorem gX5_mass_X5_goesOn : GoodIn wsX5_mass (wsV RX5 75 RX5 yX5_goesOn wsX5_goesOn) := goodIn_app (goodIn_of _ (by decide +kernel)) ggX5_mass_X5_goesOn
set_option maxRecDepth 20000 in
theorem ggX5_mass_X5_massOf : GoodIn wsX5_mass wsX5_massOf := goodIn_ca (goodIn_r _ [18, 19, 20, 21, 22, 23, 24, 25, 26, 27, 28, 29, 30, 31, 32, 33, 34, 35, 36, 37, 38, 39, 40, 41, 42, 43, 44, 45, 46, 47, 48, 49] (by decide +kernel) (by decide +kernel)) (goodIn_sub (fun _ h => List.mem_cons_of_mem _ (List.mem_append_right _ h)) (by decide +kernel))
set_option maxRecDepth 20000 in
theorem gX5_mass_X5_massOf : GoodIn wsX5_mass (wsV RX5 91 RX5 yX5_massOf wsX5_massOf) := goodIn_app (goodIn_of _ (by decide +kernel)) ggX5_mass_X5_massOf
theorem dX5_mass_0 : decode cX5_mass 0 = .ok (.aload_n 0, 1) := by decide +kernel
theorem dX5_mass_1 : decode cX5_mass 1 = .ok (.aload_n 0, 1) := by decide +kernel
theorem dX5_mass_2 : decode cX5_mass 2 = .ok (.iload_n 1, 1) := by decide +kernel
theorem dX5_mass_3 : decode cX5_mass 3 = .ok (.invokevirtual 78, 3) := by decide +kernel
theorem dX5_mass_6 : decode cX5_mass 6 = .ok (.ifCond .eq 7, 3) := by decide +kernel
theorem dX5_mass_9 : decode cX5_mass 9 = .ok (.iconst 0, 1) := by decide +kernel
theorem dX5_mass_10 : decode cX5_mass 10 = .ok (.goto 4, 3) := by decide +kernel
theorem dX5_mass_13 : decode cX5_mass 13 = .ok (.iconst 1, 1) := by decide +kernel
theorem dX5_mass_14 : decode cX5_mass 14 = .ok (.invokevirtual 75, 3) := by decide +kernel
theorem dX5_mass_17 : decode cX5_mass 17 = .ok (.ifCond .eq 11, 3) := by decide +kernel
theorem dX5_mass_20 : decode cX5_mass 20 = .ok (.aload_n 0, 1) := by decide +kernel
theorem dX5_mass_21 : decode cX5_mass 21 = .ok (.iload_n 1, 1) := by decide +kernel
theorem dX5_mass_22 : decode cX5_mass 22 = .ok (.invokevirtual 91, 3) := by decide +kernel
theorem dX5_mass_25 : decode cX5_mass 25 = .ok (.goto 4, 3) := by decide +kernel
theorem dX5_mass_28 : decode cX5_mass 28 = .ok (.iconst 0, 1) := by decide +kernel
theorem dX5_mass_29 : decode cX5_mass 29 = .ok (.ireturn, 1) := by decide +kernel
set_option maxRecDepth 20000 in
theorem ggX5_order_X5_isGrade : GoodIn wsX5_order wsX5_isGrade := goodIn_r _ [10, 11, 12, 13, 9, 14, 20, 21, 22, 23, 24, 25, 26, 27, 28, 29, 30, 31, 32, 33, 34, 35, 36, 37, 38, 39, 40, 41, 42, 43, 44, 45, 46, 47, 48] (by decide +kernel) (by decide +kernel)
set_option maxRecDepth 20000 in
theorem gX5_order_X5_isGrade : GoodIn wsX5_order (wsV RX5 78 RX5 yX5_isGrade wsX5_isGrade) := goodIn_app (goodIn_of _ (by decide +kernel)) ggX5_order_X5_isGrade
set_option maxRecDepth 20000 in
theorem ggX5_order_X5_in : GoodIn wsX5_order wsX5_in := goodIn_r _ [14] (by decide +kernel) (by decide +kernel)
set_option maxRecDepth 20000 in
theorem gX5_order_X5_in : GoodIn wsX5_order (va_wsS RX5 64 yX5_in wsX5_in) := goodIn_app (goodIn_of _ (by decide +kernel)) ggX5_order_X5_in
set_option maxRecDepth 20000 in
theorem ggX5_order_X5_goesOn : GoodIn wsX5_order wsX5_goesOn := goodIn_r _ [18, 19, 20, 21, 22, 23, 24, 25, 26, 27, 28, 29, 30, 31, 32, 33, 34, 35, 36, 37, 38, 39, 40, 41, 42, 43, 44, 45, 46, 47, 48] (by decide +kernel) (by decide +kernel)
set_option maxRecDepth 20000 in
theorem gX5_order_X5_goesOn : GoodIn wsX5_order (wsV RX5 75 RX5 yX5_goesOn wsX5_goesOn) := goodIn_app (goodIn_of _ (by decide +kernel)) ggX5_order_X5_goesOn
theorem dX5_order_0 : decode cX5_order 0 = .ok (.aload_n 0, 1) := by decide +kernel
theorem dX5_order_1 : decode cX5_order 1 = .ok (.iload_n 1, 1) := by decide +kernel
theorem dX5_order_2 : decode cX5_order 2 = .ok (.invokevirtual 78, 3) := by decide +kernel
theorem dX5_order_5 : decode cX5_order 5 = .ok (.ifCond .ne 7, 3) := by decide +kernel
theorem dX5_order_8 : decode cX5_order 8 = .ok (.iconst 1, 1) := by decide +kernel
theorem dX5_order_9 : decode cX5_order 9 = .ok (.goto 55, 3) := by decide +kernel
theorem dX5_order_12 : decode cX5_order 12 = .ok (.iload_n 2, 1) := by decide +kernel
theorem dX5_order_13 : decode cX5_order 13 = .ok (.bipush 20, 2) := by decide +kernel
theorem dX5_order_15 : decode cX5_order 15 = .ok (.sipush 400, 3) := by decide +kernel
theorem dX5_order_18 : decode cX5_order 18 = .ok (.invokestatic 64, 3) := by decide +kernel
theorem dX5_order_21 : decode cX5_order 21 = .ok (.ifCond .eq 13, 3) := by decide +kernel
theorem dX5_order_24 : decode cX5_order 24 = .ok (.iload_n 3, 1) := by decide +kernel
theorem dX5_order_25 : decode cX5_order 25 = .ok (.iconst 1, 1) := by decide +kernel
theorem dX5_order_26 : decode cX5_order 26 = .ok (.bipush 50, 2) := by decide +kernel
theorem dX5_order_28 : decode cX5_order 28 = .ok (.invokestatic 64, 3) := by decide +kernel
theorem dX5_order_31 : decode cX5_order 31 = .ok (.ifCond .ne 7, 3) := by decide +kernel
theorem dX5_order_34 : decode cX5_order 34 = .ok (.iconst 2, 1) := by decide +kernel
theorem dX5_order_35 : decode cX5_order 35 = .ok (.goto 29, 3) := by decide +kernel
theorem dX5_order_38 : decode cX5_order 38 = .ok (.iload_n 2, 1) := by decide +kernel
theorem dX5_order_39 : decode cX5_order 39 = .ok (.aload_n 0, 1) := by decide +kernel
theorem dX5_order_40 : decode cX5_order 40 = .ok (.getfield 13, 3) := by decide +kernel
theorem dX5_order_43 : decode cX5_order 43 = .ok (.if_icmp .le 7, 3) := by decide +kernel
theorem dX5_order_46 : decode cX5_order 46 = .ok (.iconst 3, 1) := by decide +kernel
theorem dX5_order_47 : decode cX5_order 47 = .ok (.goto 17, 3) := by decide +kernel
theorem dX5_order_50 : decode cX5_order 50 = .ok (.aload_n 0, 1) := by decide +kernel
theorem dX5_order_51 : decode cX5_order 51 = .ok (.getfield 68, 3) := by decide +kernel
theorem dX5_order_54 : decode cX5_order 54 = .ok (.bipush 10, 2) := by decide +kernel
theorem dX5_order_56 : decode cX5_order 56 = .ok (.if_icmp .ne 7, 3) := by decide +kernel
theorem dX5_order_59 : decode cX5_order 59 = .ok (.iconst 4, 1) := by decide +kernel
theorem dX5_order_60 : decode cX5_order 60 = .ok (.goto 4, 3) := by decide +kernel
theorem dX5_order_63 : decode cX5_order 63 = .ok (.iconst 0, 1) := by decide +kernel
theorem dX5_order_64 : decode cX5_order 64 = .ok (.istore 4, 2) := by decide +kernel
