theorem dX3_widestOpen_3 : decode cX3_widestOpen 3 = .ok (.istore_n 2, 1) := by decide +kernel
theorem dX3_widestOpen_4 : decode cX3_widestOpen 4 = .ok (.iload_n 2, 1) := by decide +kernel
theorem dX3_widestOpen_5 : decode cX3_widestOpen 5 = .ok (.aload_n 0, 1) := by decide +kernel
theorem dX3_widestOpen_6 : decode cX3_widestOpen 6 = .ok (.getfield 24, 3) := by decide +kernel
theorem dX3_widestOpen_9 : decode cX3_widestOpen 9 = .ok (.if_icmp .ge 29, 3) := by decide +kernel
theorem dX3_widestOpen_12 : decode cX3_widestOpen 12 = .ok (.aload_n 0, 1) := by decide +kernel
theorem dX3_widestOpen_13 : decode cX3_widestOpen 13 = .ok (.getfield 21, 3) := by decide +kernel
theorem dX3_widestOpen_16 : decode cX3_widestOpen 16 = .ok (.iload_n 2, 1) := by decide +kernel
theorem dX3_widestOpen_17 : decode cX3_widestOpen 17 = .ok (.iaload, 1) := by decide +kernel
theorem dX3_widestOpen_18 : decode cX3_widestOpen 18 = .ok (.ifCond .le 14, 3) := by decide +kernel
theorem dX3_widestOpen_21 : decode cX3_widestOpen 21 = .ok (.iload_n 1, 1) := by decide +kernel
theorem dX3_widestOpen_22 : decode cX3_widestOpen 22 = .ok (.aload_n 0, 1) := by decide +kernel
theorem dX3_widestOpen_23 : decode cX3_widestOpen 23 = .ok (.getfield 15, 3) := by decide +kernel
theorem dX3_widestOpen_26 : decode cX3_widestOpen 26 = .ok (.iload_n 2, 1) := by decide +kernel
theorem dX3_widestOpen_27 : decode cX3_widestOpen 27 = .ok (.iaload, 1) := by decide +kernel
theorem dX3_widestOpen_28 : decode cX3_widestOpen 28 = .ok (.invokestatic 32, 3) := by decide +kernel
theorem dX3_widestOpen_31 : decode cX3_widestOpen 31 = .ok (.istore_n 1, 1) := by decide +kernel
theorem dX3_widestOpen_32 : decode cX3_widestOpen 32 = .ok (.iinc 2 1, 3) := by decide +kernel
theorem dX3_widestOpen_35 : decode cX3_widestOpen 35 = .ok (.goto (-31), 3) := by decide +kernel
theorem dX3_widestOpen_38 : decode cX3_widestOpen 38 = .ok (.iload_n 1, 1) := by decide +kernel
theorem dX3_widestOpen_39 : decode cX3_widestOpen 39 = .ok (.ireturn, 1) := by decide +kernel
theorem dX3_rollsLacking_0 : decode cX3_rollsLacking 0 = .ok (.iconst 0, 1) := by decide +kernel
theorem dX3_rollsLacking_1 : decode cX3_rollsLacking 1 = .ok (.istore_n 2, 1) := by decide +kernel
theorem dX3_rollsLacking_2 : decode cX3_rollsLacking 2 = .ok (.iconst 0, 1) := by decide +kernel
theorem dX3_rollsLacking_3 : decode cX3_rollsLacking 3 = .ok (.istore_n 3, 1) := by decide +kernel
theorem dX3_rollsLacking_4 : decode cX3_rollsLacking 4 = .ok (.iload_n 3, 1) := by decide +kernel
theorem dX3_rollsLacking_5 : decode cX3_rollsLacking 5 = .ok (.aload_n 0, 1) := by decide +kernel
theorem dX3_rollsLacking_6 : decode cX3_rollsLacking 6 = .ok (.getfield 24, 3) := by decide +kernel
theorem dX3_rollsLacking_9 : decode cX3_rollsLacking 9 = .ok (.if_icmp .ge 28, 3) := by decide +kernel
theorem dX3_rollsLacking_12 : decode cX3_rollsLacking 12 = .ok (.aload_n 0, 1) := by decide +kernel
theorem dX3_rollsLacking_13 : decode cX3_rollsLacking 13 = .ok (.getfield 9, 3) := by decide +kernel
theorem dX3_rollsLacking_16 : decode cX3_rollsLacking 16 = .ok (.iload_n 3, 1) := by decide +kernel
theorem dX3_rollsLacking_17 : decode cX3_rollsLacking 17 = .ok (.iaload, 1) := by decide +kernel
theorem dX3_rollsLacking_18 : decode cX3_rollsLacking 18 = .ok (.iload_n 1, 1) := by decide +kernel
theorem dX3_rollsLacking_19 : decode cX3_rollsLacking 19 = .ok (.if_icmp .ne 12, 3) := by decide +kernel
theorem dX3_rollsLacking_22 : decode cX3_rollsLacking 22 = .ok (.iload_n 2, 1) := by decide +kernel
theorem dX3_rollsLacking_23 : decode cX3_rollsLacking 23 = .ok (.aload_n 0, 1) := by decide +kernel
theorem dX3_rollsLacking_24 : decode cX3_rollsLacking 24 = .ok (.getfield 21, 3) := by decide +kernel
theorem dX3_rollsLacking_27 : decode cX3_rollsLacking 27 = .ok (.iload_n 3, 1) := by decide +kernel
theorem dX3_rollsLacking_28 : decode cX3_rollsLacking 28 = .ok (.iaload, 1) := by decide +kernel
theorem dX3_rollsLacking_29 : decode cX3_rollsLacking 29 = .ok (.iadd, 1) := by decide +kernel
theorem dX3_rollsLacking_30 : decode cX3_rollsLacking 30 = .ok (.istore_n 2, 1) := by decide +kernel
theorem dX3_rollsLacking_31 : decode cX3_rollsLacking 31 = .ok (.iinc 3 1, 3) := by decide +kernel
theorem dX3_rollsLacking_34 : decode cX3_rollsLacking 34 = .ok (.goto (-30), 3) := by decide +kernel
theorem dX3_rollsLacking_37 : decode cX3_rollsLacking 37 = .ok (.iload_n 2, 1) := by decide +kernel
theorem dX3_rollsLacking_38 : decode cX3_rollsLacking 38 = .ok (.ireturn, 1) := by decide +kernel
theorem dX3_takeOff_0 : decode cX3_takeOff 0 = .ok (.iconst 0, 1) := by decide +kernel
theorem dX3_takeOff_1 : decode cX3_takeOff 1 = .ok (.istore_n 2, 1) := by decide +kernel
theorem dX3_takeOff_2 : decode cX3_takeOff 2 = .ok (.iconst 0, 1) := by decide +kernel
theorem dX3_takeOff_3 : decode cX3_takeOff 3 = .ok (.istore_n 3, 1) := by decide +kernel
theorem dX3_takeOff_4 : decode cX3_takeOff 4 = .ok (.iload_n 3, 1) := by decide +kernel
theorem dX3_takeOff_5 : decode cX3_takeOff 5 = .ok (.aload_n 0, 1) := by decide +kernel
theorem dX3_takeOff_6 : decode cX3_takeOff 6 = .ok (.getfield 24, 3) := by decide +kernel
theorem dX3_takeOff_9 : decode cX3_takeOff 9 = .ok (.if_icmp .ge 45, 3) := by decide +kernel
theorem dX3_takeOff_12 : decode cX3_takeOff 12 = .ok (.iload_n 3, 1) := by decide +kernel
theorem dX3_takeOff_13 : decode cX3_takeOff 13 = .ok (.aload_n 1, 1) := by decide +kernel
theorem dX3_takeOff_14 : decode cX3_takeOff 14 = .ok (.arraylength, 1) := by decide +kernel
theorem dX3_takeOff_15 : decode cX3_takeOff 15 = .ok (.if_icmp .ge 39, 3) := by decide +kernel
theorem dX3_takeOff_18 : decode cX3_takeOff 18 = .ok (.aload_n 0, 1) := by decide +kernel
theorem dX3_takeOff_19 : decode cX3_takeOff 19 = .ok (.getfield 18, 3) := by decide +kernel
theorem dX3_takeOff_22 : decode cX3_takeOff 22 = .ok (.iload_n 3, 1) := by decide +kernel
theorem dX3_takeOff_23 : decode cX3_takeOff 23 = .ok (.dup2, 1) := by decide +kernel
theorem dX3_takeOff_24 : decode cX3_takeOff 24 = .ok (.iaload, 1) := by decide +kernel
theorem dX3_takeOff_25 : decode cX3_takeOff 25 = .ok (.aload_n 1, 1) := by decide +kernel
theorem dX3_takeOff_26 : decode cX3_takeOff 26 = .ok (.iload_n 3, 1) := by decide +kernel
theorem dX3_takeOff_27 : decode cX3_takeOff 27 = .ok (.iaload, 1) := by decide +kernel
theorem dX3_takeOff_28 : decode cX3_takeOff 28 = .ok (.iadd, 1) := by decide +kernel
theorem dX3_takeOff_29 : decode cX3_takeOff 29 = .ok (.iastore, 1) := by decide +kernel
theorem dX3_takeOff_30 : decode cX3_takeOff 30 = .ok (.aload_n 0, 1) := by decide +kernel
theorem dX3_takeOff_31 : decode cX3_takeOff 31 = .ok (.getfield 21, 3) := by decide +kernel
theorem dX3_takeOff_34 : decode cX3_takeOff 34 = .ok (.iload_n 3, 1) := by decide +kernel
theorem dX3_takeOff_35 : decode cX3_takeOff 35 = .ok (.dup2, 1) := by decide +kernel
theorem dX3_takeOff_36 : decode cX3_takeOff 36 = .ok (.iaload, 1) := by decide +kernel
theorem dX3_takeOff_37 : decode cX3_takeOff 37 = .ok (.aload_n 1, 1) := by decide +kernel
theorem dX3_takeOff_38 : decode cX3_takeOff 38 = .ok (.iload_n 3, 1) := by decide +kernel
theorem dX3_takeOff_39 : decode cX3_takeOff 39 = .ok (.iaload, 1) := by decide +kernel
theorem dX3_takeOff_40 : decode cX3_takeOff 40 = .ok (.isub, 1) := by decide +kernel
theorem dX3_takeOff_41 : decode cX3_takeOff 41 = .ok (.iastore, 1) := by decide +kernel
theorem dX3_takeOff_42 : decode cX3_takeOff 42 = .ok (.iload_n 2, 1) := by decide +kernel
theorem dX3_takeOff_43 : decode cX3_takeOff 43 = .ok (.aload_n 1, 1) := by decide +kernel
theorem dX3_takeOff_44 : decode cX3_takeOff 44 = .ok (.iload_n 3, 1) := by decide +kernel
theorem dX3_takeOff_45 : decode cX3_takeOff 45 = .ok (.iaload, 1) := by decide +kernel
theorem dX3_takeOff_46 : decode cX3_takeOff 46 = .ok (.iadd, 1) := by decide +kernel
theorem dX3_takeOff_47 : decode cX3_takeOff 47 = .ok (.istore_n 2, 1) := by decide +kernel
theorem dX3_takeOff_48 : decode cX3_takeOff 48 = .ok (.iinc 3 1, 3) := by decide +kernel
theorem dX3_takeOff_51 : decode cX3_takeOff 51 = .ok (.goto (-47), 3) := by decide +kernel
theorem dX3_takeOff_54 : decode cX3_takeOff 54 = .ok (.iload_n 2, 1) := by decide +kernel
theorem dX3_takeOff_55 : decode cX3_takeOff 55 = .ok (.ireturn, 1) := by decide +kernel
set_option maxRecDepth 20000 in
theorem ggX4_init_X3_init : GoodIn wsX4_init wsX3_init := goodIn_r _ [27, 28, 2, 3, 4, 29, 30, 31, 32, 69, 70, 71, 72, 73] (by decide +kernel) (by decide +kernel)
set_option maxRecDepth 20000 in
theorem gX4_init_X3_init_n26 : GoodIn wsX4_init (wsX3_init) := ggX4_init_X3_init
set_option maxRecDepth 20000 in
theorem ggX4_init_X1_init : GoodIn wsX4_init wsX1_init := goodIn_r _ [34, 35, 2, 3, 4, 36, 37, 38, 39, 40, 41, 74, 75, 76, 77, 78, 79, 80, 81] (by decide +kernel) (by decide +kernel)
set_option maxRecDepth 20000 in
theorem gX4_init_X1_init_n33 : GoodIn wsX4_init (wsX1_init) := ggX4_init_X1_init
set_option maxRecDepth 20000 in
theorem ggX4_init_X0_init : GoodIn wsX4_init wsX0_init := goodIn_r _ [43, 44, 2, 3, 45, 46, 47, 82, 83, 84] (by decide +kernel) (by decide +kernel)
set_option maxRecDepth 20000 in
theorem gX4_init_X0_init_n40 : GoodIn wsX4_init (wsX0_init) := ggX4_init_X0_init
set_option maxRecDepth 20000 in
theorem ggX4_init_X2_init : GoodIn wsX4_init wsX2_init := goodIn_r _ [49, 50, 2, 3, 51, 52, 4, 53, 54, 55, 85, 86, 87, 88, 89, 90, 91, 92, 93, 94, 95] (by decide +kernel) (by decide +kernel)
set_option maxRecDepth 20000 in
theorem gX4_init_X2_init_n47 : GoodIn wsX4_init (wsX2_init) := ggX4_init_X2_init
theorem dX4_init_0 : decode cX4_init 0 = .ok (.aload_n 0, 1) := by decide +kernel
theorem dX4_init_1 : decode cX4_init 1 = .ok (.invokespecial 1, 3) := by decide +kernel
theorem dX4_init_4 : decode cX4_init 4 = .ok (.aload_n 0, 1) := by decide +kernel
theorem dX4_init_5 : decode cX4_init 5 = .ok (.bipush 6, 2) := by decide +kernel
theorem dX4_init_7 : decode cX4_init 7 = .ok (.newarray .int, 2) := by decide +kernel
theorem dX4_init_9 : decode cX4_init 9 = .ok (.putfield 9, 3) := by decide +kernel
theorem dX4_init_12 : decode cX4_init 12 = .ok (.aload_n 0, 1) := by decide +kernel
theorem dX4_init_13 : decode cX4_init 13 = .ok (.sipush 600, 3) := by decide +kernel
theorem dX4_init_16 : decode cX4_init 16 = .ok (.putfield 13, 3) := by decide +kernel
theorem dX4_init_19 : decode cX4_init 19 = .ok (.aload_n 0, 1) := by decide +kernel
theorem dX4_init_20 : decode cX4_init 20 = .ok (.iconst (-1), 1) := by decide +kernel
theorem dX4_init_21 : decode cX4_init 21 = .ok (.putfield 17, 3) := by decide +kernel
theorem dX4_init_24 : decode cX4_init 24 = .ok (.aload_n 0, 1) := by decide +kernel
theorem dX4_init_25 : decode cX4_init 25 = .ok (.iconst 1, 1) := by decide +kernel
theorem dX4_init_26 : decode cX4_init 26 = .ok (.putfield 20, 3) := by decide +kernel
theorem dX4_init_29 : decode cX4_init 29 = .ok (.aload_n 0, 1) := by decide +kernel
theorem dX4_init_30 : decode cX4_init 30 = .ok (.new 24, 3) := by decide +kernel
theorem dX4_init_33 : decode cX4_init 33 = .ok (.dup, 1) := by decide +kernel
theorem dX4_init_34 : decode cX4_init 34 = .ok (.invokespecial 26, 3) := by decide +kernel
theorem dX4_init_37 : decode cX4_init 37 = .ok (.putfield 27, 3) := by decide +kernel
theorem dX4_init_40 : decode cX4_init 40 = .ok (.aload_n 0, 1) := by decide +kernel
theorem dX4_init_41 : decode cX4_init 41 = .ok (.new 31, 3) := by decide +kernel
theorem dX4_init_44 : decode cX4_init 44 = .ok (.dup, 1) := by decide +kernel
theorem dX4_init_45 : decode cX4_init 45 = .ok (.invokespecial 33, 3) := by decide +kernel
theorem dX4_init_48 : decode cX4_init 48 = .ok (.putfield 34, 3) := by decide +kernel
theorem dX4_init_51 : decode cX4_init 51 = .ok (.aload_n 0, 1) := by decide +kernel
theorem dX4_init_52 : decode cX4_init 52 = .ok (.new 38, 3) := by decide +kernel
theorem dX4_init_55 : decode cX4_init 55 = .ok (.dup, 1) := by decide +kernel
theorem dX4_init_56 : decode cX4_init 56 = .ok (.invokespecial 40, 3) := by decide +kernel
theorem dX4_init_59 : decode cX4_init 59 = .ok (.putfield 41, 3) := by decide +kernel
theorem dX4_init_62 : decode cX4_init 62 = .ok (.aload_n 0, 1) := by decide +kernel
theorem dX4_init_63 : decode cX4_init 63 = .ok (.new 45, 3) := by decide +kernel
theorem dX4_init_66 : decode cX4_init 66 = .ok (.dup, 1) := by decide +kernel
theorem dX4_init_67 : decode cX4_init 67 = .ok (.invokespecial 47, 3) := by decide +kernel
theorem dX4_init_70 : decode cX4_init 70 = .ok (.putfield 48, 3) := by decide +kernel
theorem dX4_init_73 : decode cX4_init 73 = .ok (.aload_n 0, 1) := by decide +kernel
theorem dX4_init_74 : decode cX4_init 74 = .ok (.bipush 20, 2) := by decide +kernel
theorem dX4_init_76 : decode cX4_init 76 = .ok (.putfield 52, 3) := by decide +kernel
theorem dX4_init_79 : decode cX4_init 79 = .ok (.return_, 1) := by decide +kernel
set_option maxRecDepth 20000 in
theorem ggX4_addGrade_X4_isWithin : GoodIn wsX4_addGrade wsX4_isWithin := goodIn_r _ [10] (by decide +kernel) (by decide +kernel)
set_option maxRecDepth 20000 in
theorem gX4_addGrade_X4_isWithin : GoodIn wsX4_addGrade (va_wsS RX4 55 yX4_isWithin wsX4_isWithin) := goodIn_app (goodIn_of _ (by decide +kernel)) ggX4_addGrade_X4_isWithin
set_option maxRecDepth 20000 in
theorem ggX4_addGrade_X4_isWeightTaken : GoodIn wsX4_addGrade wsX4_isWeightTaken := goodIn_r _ [14, 5, 6, 15, 16, 17, 18, 19, 20, 21, 22, 23, 24, 25, 26, 27] (by decide +kernel) (by decide +kernel)
set_option maxRecDepth 20000 in
theorem gX4_addGrade_X4_isWeightTaken : GoodIn wsX4_addGrade (wsV RX4 59 RX4 yX4_isWeightTaken wsX4_isWeightTaken) := goodIn_app (goodIn_of _ (by decide +kernel)) ggX4_addGrade_X4_isWeightTaken
theorem dX4_addGrade_0 : decode cX4_addGrade 0 = .ok (.iload_n 1, 1) := by decide +kernel
theorem dX4_addGrade_1 : decode cX4_addGrade 1 = .ok (.bipush 40, 2) := by decide +kernel
theorem dX4_addGrade_3 : decode cX4_addGrade 3 = .ok (.sipush 200, 3) := by decide +kernel
theorem dX4_addGrade_6 : decode cX4_addGrade 6 = .ok (.invokestatic 55, 3) := by decide +kernel
theorem dX4_addGrade_9 : decode cX4_addGrade 9 = .ok (.ifCond .eq 11, 3) := by decide +kernel
theorem dX4_addGrade_12 : decode cX4_addGrade 12 = .ok (.aload_n 0, 1) := by decide +kernel
theorem dX4_addGrade_13 : decode cX4_addGrade 13 = .ok (.iload_n 1, 1) := by decide +kernel
theorem dX4_addGrade_14 : decode cX4_addGrade 14 = .ok (.invokevirtual 59, 3) := by decide +kernel
theorem dX4_addGrade_17 : decode cX4_addGrade 17 = .ok (.ifCond .eq 13, 3) := by decide +kernel
theorem dX4_addGrade_20 : decode cX4_addGrade 20 = .ok (.new 63, 3) := by decide +kernel
theorem dX4_addGrade_23 : decode cX4_addGrade 23 = .ok (.dup, 1) := by decide +kernel
theorem dX4_addGrade_24 : decode cX4_addGrade 24 = .ok (.ldc 65, 2) := by decide +kernel
theorem dX4_addGrade_26 : decode cX4_addGrade 26 = .ok (.invokespecial 67, 3) := by decide +kernel
theorem dX4_addGrade_29 : decode cX4_addGrade 29 = .ok (.athrow, 1) := by decide +kernel
theorem dX4_addGrade_30 : decode cX4_addGrade 30 = .ok (.aload_n 0, 1) := by decide +kernel
theorem dX4_addGrade_31 : decode cX4_addGrade 31 = .ok (.getfield 70, 3) := by decide +kernel
theorem dX4_addGrade_34 : decode cX4_addGrade 34 = .ok (.aload_n 0, 1) := by decide +kernel
theorem dX4_addGrade_35 : decode cX4_addGrade 35 = .ok (.getfield 9, 3) := by decide +kernel
theorem dX4_addGrade_38 : decode cX4_addGrade 38 = .ok (.arraylength, 1) := by decide +kernel
theorem dX4_addGrade_39 : decode cX4_addGrade 39 = .ok (.if_icmp .lt 13, 3) := by decide +kernel
theorem dX4_addGrade_42 : decode cX4_addGrade 42 = .ok (.new 73, 3) := by decide +kernel
theorem dX4_addGrade_45 : decode cX4_addGrade 45 = .ok (.dup, 1) := by decide +kernel
theorem dX4_addGrade_46 : decode cX4_addGrade 46 = .ok (.ldc 75, 2) := by decide +kernel
theorem dX4_addGrade_48 : decode cX4_addGrade 48 = .ok (.invokespecial 77, 3) := by decide +kernel
theorem dX4_addGrade_51 : decode cX4_addGrade 51 = .ok (.athrow, 1) := by decide +kernel
theorem dX4_addGrade_52 : decode cX4_addGrade 52 = .ok (.aload_n 0, 1) := by decide +kernel
theorem dX4_addGrade_53 : decode cX4_addGrade 53 = .ok (.getfield 70, 3) := by decide +kernel
theorem dX4_addGrade_56 : decode cX4_addGrade 56 = .ok (.istore_n 2, 1) := by decide +kernel
theorem dX4_addGrade_57 : decode cX4_addGrade 57 = .ok (.aload_n 0, 1) := by decide +kernel
theorem dX4_addGrade_58 : decode cX4_addGrade 58 = .ok (.getfield 9, 3) := by decide +kernel
theorem dX4_addGrade_61 : decode cX4_addGrade 61 = .ok (.iload_n 2, 1) := by decide +kernel
theorem dX4_addGrade_62 : decode cX4_addGrade 62 = .ok (.iload_n 1, 1) := by decide +kernel
theorem dX4_addGrade_63 : decode cX4_addGrade 63 = .ok (.iastore, 1) := by decide +kernel
theorem dX4_addGrade_64 : decode cX4_addGrade 64 = .ok (.aload_n 0, 1) := by decide +kernel
theorem dX4_addGrade_65 : decode cX4_addGrade 65 = .ok (.dup, 1) := by decide +kernel
theorem dX4_addGrade_66 : decode cX4_addGrade 66 = .ok (.getfield 70, 3) := by decide +kernel
theorem dX4_addGrade_69 : decode cX4_addGrade 69 = .ok (.iconst 1, 1) := by decide +kernel
theorem dX4_addGrade_70 : decode cX4_addGrade 70 = .ok (.iadd, 1) := by decide +kernel
theorem dX4_addGrade_71 : decode cX4_addGrade 71 = .ok (.putfield 70, 3) := by decide +kernel
theorem dX4_addGrade_74 : decode cX4_addGrade 74 = .ok (.iload_n 2, 1) := by decide +kernel
theorem dX4_addGrade_75 : decode cX4_addGrade 75 = .ok (.ireturn, 1) := by decide +kernel
set_option maxRecDepth 20000 in
theorem ggX4_setWidth_X4_isWithin : GoodIn wsX4_setWidth wsX4_isWithin := goodIn_r _ [10] (by decide +kernel) (by decide +kernel)
set_option maxRecDepth 20000 in
theorem gX4_setWidth_X4_isWithin : GoodIn wsX4_setWidth (va_wsS RX4 55 yX4_isWithin wsX4_isWithin) := goodIn_app (goodIn_of _ (by decide +kernel)) ggX4_setWidth_X4_isWithin
set_option maxRecDepth 20000 in
theorem ggX4_setWidth_X3_widestOpen : GoodIn wsX4_setWidth wsX3_widestOpen := goodIn_r _ [15, 16, 17, 18, 19, 20, 21, 22, 36, 37, 38, 39, 40] (by decide +kernel) (by decide +kernel)
set_option maxRecDepth 20000 in
theorem gX4_setWidth_X3_widestOpen : GoodIn wsX4_setWidth (wsV RX4 80 RX3 yX3_widestOpen wsX3_widestOpen) := goodIn_app (goodIn_of _ (by decide +kernel)) ggX4_setWidth_X3_widestOpen
theorem dX4_setWidth_0 : decode cX4_setWidth 0 = .ok (.iload_n 1, 1) := by decide +kernel
theorem dX4_setWidth_1 : decode cX4_setWidth 1 = .ok (.sipush 200, 3) := by decide +kernel
theorem dX4_setWidth_4 : decode cX4_setWidth 4 = .ok (.sipush 800, 3) := by decide +kernel
theorem dX4_setWidth_7 : decode cX4_setWidth 7 = .ok (.invokestatic 55, 3) := by decide +kernel
theorem dX4_setWidth_10 : decode cX4_setWidth 10 = .ok (.ifCond .ne 13, 3) := by decide +kernel
theorem dX4_setWidth_13 : decode cX4_setWidth 13 = .ok (.new 63, 3) := by decide +kernel
theorem dX4_setWidth_16 : decode cX4_setWidth 16 = .ok (.dup, 1) := by decide +kernel
theorem dX4_setWidth_17 : decode cX4_setWidth 17 = .ok (.ldc 78, 2) := by decide +kernel
theorem dX4_setWidth_19 : decode cX4_setWidth 19 = .ok (.invokespecial 67, 3) := by decide +kernel
theorem dX4_setWidth_22 : decode cX4_setWidth 22 = .ok (.athrow, 1) := by decide +kernel
theorem dX4_setWidth_23 : decode cX4_setWidth 23 = .ok (.aload_n 0, 1) := by decide +kernel
theorem dX4_setWidth_24 : decode cX4_setWidth 24 = .ok (.getfield 27, 3) := by decide +kernel
theorem dX4_setWidth_27 : decode cX4_setWidth 27 = .ok (.invokevirtual 80, 3) := by decide +kernel
theorem dX4_setWidth_30 : decode cX4_setWidth 30 = .ok (.iload_n 1, 1) := by decide +kernel
theorem dX4_setWidth_31 : decode cX4_setWidth 31 = .ok (.if_icmp .le 13, 3) := by decide +kernel
theorem dX4_setWidth_34 : decode cX4_setWidth 34 = .ok (.new 73, 3) := by decide +kernel
theorem dX4_setWidth_37 : decode cX4_setWidth 37 = .ok (.dup, 1) := by decide +kernel
theorem dX4_setWidth_38 : decode cX4_setWidth 38 = .ok (.ldc 84, 2) := by decide +kernel
theorem dX4_setWidth_40 : decode cX4_setWidth 40 = .ok (.invokespecial 77, 3) := by decide +kernel
theorem dX4_setWidth_43 : decode cX4_setWidth 43 = .ok (.athrow, 1) := by decide +kernel
theorem dX4_setWidth_44 : decode cX4_setWidth 44 = .ok (.aload_n 0, 1) := by decide +kernel
theorem dX4_setWidth_45 : decode cX4_setWidth 45 = .ok (.getfield 13, 3) := by decide +kernel
theorem dX4_setWidth_48 : decode cX4_setWidth 48 = .ok (.istore_n 2, 1) := by decide +kernel
theorem dX4_setWidth_49 : decode cX4_setWidth 49 = .ok (.aload_n 0, 1) := by decide +kernel
theorem dX4_setWidth_50 : decode cX4_setWidth 50 = .ok (.iload_n 1, 1) := by decide +kernel
theorem dX4_setWidth_51 : decode cX4_setWidth 51 = .ok (.putfield 13, 3) := by decide +kernel
theorem dX4_setWidth_54 : decode cX4_setWidth 54 = .ok (.iload_n 2, 1) := by decide +kernel
theorem dX4_setWidth_55 : decode cX4_setWidth 55 = .ok (.ireturn, 1) := by decide +kernel
set_option maxRecDepth 20000 in
theorem ggX4_change_X4_isGrade : GoodIn wsX4_change wsX4_isGrade := goodIn_r _ [19, 20, 21, 22, 23, 24, 25, 26, 27, 28, 29, 30, 31, 32, 33] (by decide +kernel) (by decide +kernel)
set_option maxRecDepth 20000 in
theorem gX4_change_X4_isGrade : GoodIn wsX4_change (wsV RX4 86 RX4 yX4_isGrade wsX4_isGrade) := goodIn_app (goodIn_of _ (by decide +kernel)) ggX4_change_X4_isGrade
theorem dX4_change_0 : decode cX4_change 0 = .ok (.aload_n 0, 1) := by decide +kernel
theorem dX4_change_1 : decode cX4_change 1 = .ok (.iload_n 1, 1) := by decide +kernel
theorem dX4_change_2 : decode cX4_change 2 = .ok (.invokevirtual 86, 3) := by decide +kernel
theorem dX4_change_5 : decode cX4_change 5 = .ok (.ifCond .ne 13, 3) := by decide +kernel
theorem dX4_change_8 : decode cX4_change 8 = .ok (.new 89, 3) := by decide +kernel
theorem dX4_change_11 : decode cX4_change 11 = .ok (.dup, 1) := by decide +kernel
theorem dX4_change_12 : decode cX4_change 12 = .ok (.ldc 91, 2) := by decide +kernel
theorem dX4_change_14 : decode cX4_change 14 = .ok (.invokespecial 93, 3) := by decide +kernel
theorem dX4_change_17 : decode cX4_change 17 = .ok (.athrow, 1) := by decide +kernel
theorem dX4_change_18 : decode cX4_change 18 = .ok (.iload_n 1, 1) := by decide +kernel
theorem dX4_change_19 : decode cX4_change 19 = .ok (.aload_n 0, 1) := by decide +kernel
theorem dX4_change_20 : decode cX4_change 20 = .ok (.getfield 17, 3) := by decide +kernel
theorem dX4_change_23 : decode cX4_change 23 = .ok (.if_icmp .ne 13, 3) := by decide +kernel
theorem dX4_change_26 : decode cX4_change 26 = .ok (.new 63, 3) := by decide +kernel
theorem dX4_change_29 : decode cX4_change 29 = .ok (.dup, 1) := by decide +kernel
theorem dX4_change_30 : decode cX4_change 30 = .ok (.ldc 94, 2) := by decide +kernel
theorem dX4_change_32 : decode cX4_change 32 = .ok (.invokespecial 67, 3) := by decide +kernel
theorem dX4_change_35 : decode cX4_change 35 = .ok (.athrow, 1) := by decide +kernel
theorem dX4_change_36 : decode cX4_change 36 = .ok (.aload_n 0, 1) := by decide +kernel
theorem dX4_change_37 : decode cX4_change 37 = .ok (.getfield 96, 3) := by decide +kernel
theorem dX4_change_40 : decode cX4_change 40 = .ok (.ifCond .le 13, 3) := by decide +kernel
theorem dX4_change_43 : decode cX4_change 43 = .ok (.new 73, 3) := by decide +kernel
theorem dX4_change_46 : decode cX4_change 46 = .ok (.dup, 1) := by decide +kernel
theorem dX4_change_47 : decode cX4_change 47 = .ok (.ldc 99, 2) := by decide +kernel
theorem dX4_change_49 : decode cX4_change 49 = .ok (.invokespecial 77, 3) := by decide +kernel
theorem dX4_change_52 : decode cX4_change 52 = .ok (.athrow, 1) := by decide +kernel
theorem dX4_change_53 : decode cX4_change 53 = .ok (.iconst 1, 1) := by decide +kernel
theorem dX4_change_54 : decode cX4_change 54 = .ok (.istore_n 2, 1) := by decide +kernel
theorem dX4_change_55 : decode cX4_change 55 = .ok (.aload_n 0, 1) := by decide +kernel
theorem dX4_change_56 : decode cX4_change 56 = .ok (.aload_n 0, 1) := by decide +kernel
theorem dX4_change_57 : decode cX4_change 57 = .ok (.getfield 17, 3) := by decide +kernel
theorem dX4_change_60 : decode cX4_change 60 = .ok (.invokevirtual 86, 3) := by decide +kernel
theorem dX4_change_63 : decode cX4_change 63 = .ok (.ifCond .eq 43, 3) := by decide +kernel
theorem dX4_change_66 : decode cX4_change 66 = .ok (.aload_n 0, 1) := by decide +kernel
theorem dX4_change_67 : decode cX4_change 67 = .ok (.getfield 9, 3) := by decide +kernel
theorem dX4_change_70 : decode cX4_change 70 = .ok (.iload_n 1, 1) := by decide +kernel
theorem dX4_change_71 : decode cX4_change 71 = .ok (.iaload, 1) := by decide +kernel
theorem dX4_change_72 : decode cX4_change 72 = .ok (.aload_n 0, 1) := by decide +kernel
theorem dX4_change_73 : decode cX4_change 73 = .ok (.getfield 9, 3) := by decide +kernel
theorem dX4_change_76 : decode cX4_change 76 = .ok (.aload_n 0, 1) := by decide +kernel
theorem dX4_change_77 : decode cX4_change 77 = .ok (.getfield 17, 3) := by decide +kernel
theorem dX4_change_80 : decode cX4_change 80 = .ok (.iaload, 1) := by decide +kernel
theorem dX4_change_81 : decode cX4_change 81 = .ok (.isub, 1) := by decide +kernel
theorem dX4_change_82 : decode cX4_change 82 = .ok (.istore_n 3, 1) := by decide +kernel
theorem dX4_change_83 : decode cX4_change 83 = .ok (.iload_n 2, 1) := by decide +kernel
theorem dX4_change_84 : decode cX4_change 84 = .ok (.iload_n 3, 1) := by decide +kernel
theorem dX4_change_85 : decode cX4_change 85 = .ok (.invokestatic 101, 3) := by decide +kernel
theorem dX4_change_88 : decode cX4_change 88 = .ok (.bipush 40, 2) := by decide +kernel
theorem dX4_change_90 : decode cX4_change 90 = .ok (.idiv, 1) := by decide +kernel
theorem dX4_change_91 : decode cX4_change 91 = .ok (.iadd, 1) := by decide +kernel
theorem dX4_change_92 : decode cX4_change 92 = .ok (.istore_n 2, 1) := by decide +kernel
theorem dX4_change_93 : decode cX4_change 93 = .ok (.aload_n 0, 1) := by decide +kernel
theorem dX4_change_94 : decode cX4_change 94 = .ok (.iload_n 3, 1) := by decide +kernel
theorem dX4_change_95 : decode cX4_change 95 = .ok (.ifCond .le 7, 3) := by decide +kernel
theorem dX4_change_98 : decode cX4_change 98 = .ok (.iconst 1, 1) := by decide +kernel
theorem dX4_change_99 : decode cX4_change 99 = .ok (.goto 4, 3) := by decide +kernel
theorem dX4_change_102 : decode cX4_change 102 = .ok (.iconst 0, 1) := by decide +kernel
theorem dX4_change_103 : decode cX4_change 103 = .ok (.putfield 20, 3) := by decide +kernel
theorem dX4_change_106 : decode cX4_change 106 = .ok (.aload_n 0, 1) := by decide +kernel
theorem dX4_change_107 : decode cX4_change 107 = .ok (.iload_n 1, 1) := by decide +kernel
theorem dX4_change_108 : decode cX4_change 108 = .ok (.putfield 17, 3) := by decide +kernel
theorem dX4_change_111 : decode cX4_change 111 = .ok (.aload_n 0, 1) := by decide +kernel
theorem dX4_change_112 : decode cX4_change 112 = .ok (.iload_n 2, 1) := by decide +kernel
theorem dX4_change_113 : decode cX4_change 113 = .ok (.putfield 96, 3) := by decide +kernel
theorem dX4_change_116 : decode cX4_change 116 = .ok (.iload_n 2, 1) := by decide +kernel
theorem dX4_change_117 : decode cX4_change 117 = .ok (.ireturn, 1) := by decide +kernel
set_option maxRecDepth 20000 in
theorem ggX4_grade_X4_isGrade : GoodIn wsX4_grade wsX4_isGrade := goodIn_r _ [8, 9, 10, 11, 12, 13, 14, 15, 16, 17, 18, 19, 20, 21, 22] (by decide +kernel) (by decide +kernel)
set_option maxRecDepth 20000 in
theorem gX4_grade_X4_isGrade : GoodIn wsX4_grade (wsV RX4 86 RX4 yX4_isGrade wsX4_isGrade) := goodIn_app (goodIn_of _ (by decide +kernel)) ggX4_grade_X4_isGrade
theorem dX4_grade_0 : decode cX4_grade 0 = .ok (.aload_n 0, 1) := by decide +kernel
theorem dX4_grade_1 : decode cX4_grade 1 = .ok (.aload_n 0, 1) := by decide +kernel
theorem dX4_grade_2 : decode cX4_grade 2 = .ok (.getfield 17, 3) := by decide +kernel
theorem dX4_grade_5 : decode cX4_grade 5 = .ok (.invokevirtual 86, 3) := by decide +kernel
theorem dX4_grade_8 : decode cX4_grade 8 = .ok (.ifCond .ne 13, 3) := by decide +kernel
theorem dX4_grade_11 : decode cX4_grade 11 = .ok (.new 107, 3) := by decide +kernel
theorem dX4_grade_14 : decode cX4_grade 14 = .ok (.dup, 1) := by decide +kernel
theorem dX4_grade_15 : decode cX4_grade 15 = .ok (.ldc 109, 2) := by decide +kernel
theorem dX4_grade_17 : decode cX4_grade 17 = .ok (.invokespecial 111, 3) := by decide +kernel
theorem dX4_grade_20 : decode cX4_grade 20 = .ok (.athrow, 1) := by decide +kernel
theorem dX4_grade_21 : decode cX4_grade 21 = .ok (.aload_n 0, 1) := by decide +kernel
theorem dX4_grade_22 : decode cX4_grade 22 = .ok (.getfield 17, 3) := by decide +kernel
theorem dX4_grade_25 : decode cX4_grade 25 = .ok (.ireturn, 1) := by decide +kernel
theorem dX4_changing_0 : decode cX4_changing 0 = .ok (.aload_n 0, 1) := by decide +kernel
theorem dX4_changing_1 : decode cX4_changing 1 = .ok (.getfield 96, 3) := by decide +kernel
theorem dX4_changing_4 : decode cX4_changing 4 = .ok (.ireturn, 1) := by decide +kernel
set_option maxRecDepth 20000 in
theorem ggX4_next_X4_isGrade : GoodIn wsX4_next wsX4_isGrade := goodIn_r _ [10, 11, 25, 26, 27, 28, 29, 30, 31, 32, 33, 34, 35, 36, 37] (by decide +kernel) (by decide +kernel)
set_option maxRecDepth 20000 in
theorem gX4_next_X4_isGrade : GoodIn wsX4_next (wsV RX4 86 RX4 yX4_isGrade wsX4_isGrade) := goodIn_app (goodIn_of _ (by decide +kernel)) ggX4_next_X4_isGrade
set_option maxRecDepth 20000 in
theorem ggX4_next_X4_nearestWaiting : GoodIn wsX4_next wsX4_nearestWaiting := goodIn_r _ [15, 11, 4, 16, 17, 18, 19, 20, 21, 22, 23, 24, 25, 26, 27, 28, 29, 30, 31, 32, 33, 34, 35, 36, 37, 38, 39, 40, 41, 42] (by decide +kernel) (by decide +kernel)
set_option maxRecDepth 20000 in
theorem gX4_next_X4_nearestWaiting : GoodIn wsX4_next (wsV RX4 112 RX4 yX4_nearestWaiting wsX4_nearestWaiting) := goodIn_app (goodIn_of _ (by decide +kernel)) ggX4_next_X4_nearestWaiting
theorem dX4_next_0 : decode cX4_next 0 = .ok (.aload_n 0, 1) := by decide +kernel
theorem dX4_next_1 : decode cX4_next 1 = .ok (.aload_n 0, 1) := by decide +kernel
theorem dX4_next_2 : decode cX4_next 2 = .ok (.getfield 17, 3) := by decide +kernel
theorem dX4_next_5 : decode cX4_next 5 = .ok (.invokevirtual 86, 3) := by decide +kernel
theorem dX4_next_8 : decode cX4_next 8 = .ok (.ifCond .eq 55, 3) := by decide +kernel
theorem dX4_next_11 : decode cX4_next 11 = .ok (.aload_n 0, 1) := by decide +kernel
theorem dX4_next_12 : decode cX4_next 12 = .ok (.aload_n 0, 1) := by decide +kernel
theorem dX4_next_13 : decode cX4_next 13 = .ok (.getfield 9, 3) := by decide +kernel
theorem dX4_next_16 : decode cX4_next 16 = .ok (.aload_n 0, 1) := by decide +kernel
theorem dX4_next_17 : decode cX4_next 17 = .ok (.getfield 17, 3) := by decide +kernel
theorem dX4_next_20 : decode cX4_next 20 = .ok (.iaload, 1) := by decide +kernel
theorem dX4_next_21 : decode cX4_next 21 = .ok (.aload_n 0, 1) := by decide +kernel
theorem dX4_next_22 : decode cX4_next 22 = .ok (.getfield 20, 3) := by decide +kernel
theorem dX4_next_25 : decode cX4_next 25 = .ok (.invokevirtual 112, 3) := by decide +kernel
theorem dX4_next_28 : decode cX4_next 28 = .ok (.istore_n 1, 1) := by decide +kernel
theorem dX4_next_29 : decode cX4_next 29 = .ok (.iload_n 1, 1) := by decide +kernel
theorem dX4_next_30 : decode cX4_next 30 = .ok (.iconst (-1), 1) := by decide +kernel
theorem dX4_next_31 : decode cX4_next 31 = .ok (.if_icmp .ne 39, 3) := by decide +kernel
theorem dX4_next_34 : decode cX4_next 34 = .ok (.aload_n 0, 1) := by decide +kernel
theorem dX4_next_35 : decode cX4_next 35 = .ok (.aload_n 0, 1) := by decide +kernel
theorem dX4_next_36 : decode cX4_next 36 = .ok (.getfield 9, 3) := by decide +kernel
theorem dX4_next_39 : decode cX4_next 39 = .ok (.aload_n 0, 1) := by decide +kernel
theorem dX4_next_40 : decode cX4_next 40 = .ok (.getfield 17, 3) := by decide +kernel
theorem dX4_next_43 : decode cX4_next 43 = .ok (.iaload, 1) := by decide +kernel
theorem dX4_next_44 : decode cX4_next 44 = .ok (.aload_n 0, 1) := by decide +kernel
theorem dX4_next_45 : decode cX4_next 45 = .ok (.getfield 20, 3) := by decide +kernel
theorem dX4_next_48 : decode cX4_next 48 = .ok (.ifCond .ne 7, 3) := by decide +kernel
theorem dX4_next_51 : decode cX4_next 51 = .ok (.iconst 1, 1) := by decide +kernel
theorem dX4_next_52 : decode cX4_next 52 = .ok (.goto 4, 3) := by decide +kernel
theorem dX4_next_55 : decode cX4_next 55 = .ok (.iconst 0, 1) := by decide +kernel
theorem dX4_next_56 : decode cX4_next 56 = .ok (.invokevirtual 112, 3) := by decide +kernel
theorem dX4_next_59 : decode cX4_next 59 = .ok (.istore_n 1, 1) := by decide +kernel
theorem dX4_next_60 : decode cX4_next 60 = .ok (.goto 10, 3) := by decide +kernel
theorem dX4_next_63 : decode cX4_next 63 = .ok (.aload_n 0, 1) := by decide +kernel
theorem dX4_next_64 : decode cX4_next 64 = .ok (.iconst 0, 1) := by decide +kernel
theorem dX4_next_65 : decode cX4_next 65 = .ok (.iconst 1, 1) := by decide +kernel
theorem dX4_next_66 : decode cX4_next 66 = .ok (.invokevirtual 112, 3) := by decide +kernel
theorem dX4_next_69 : decode cX4_next 69 = .ok (.istore_n 1, 1) := by decide +kernel
theorem dX4_next_70 : decode cX4_next 70 = .ok (.iload_n 1, 1) := by decide +kernel
theorem dX4_next_71 : decode cX4_next 71 = .ok (.iconst (-1), 1) := by decide +kernel
theorem dX4_next_72 : decode cX4_next 72 = .ok (.if_icmp .ne 13, 3) := by decide +kernel
theorem dX4_next_75 : decode cX4_next 75 = .ok (.new 107, 3) := by decide +kernel
theorem dX4_next_78 : decode cX4_next 78 = .ok (.dup, 1) := by decide +kernel
theorem dX4_next_79 : decode cX4_next 79 = .ok (.ldc 116, 2) := by decide +kernel
theorem dX4_next_81 : decode cX4_next 81 = .ok (.invokespecial 111, 3) := by decide +kernel
theorem dX4_next_84 : decode cX4_next 84 = .ok (.athrow, 1) := by decide +kernel
theorem dX4_next_85 : decode cX4_next 85 = .ok (.iload_n 1, 1) := by decide +kernel
theorem dX4_next_86 : decode cX4_next 86 = .ok (.ireturn, 1) := by decide +kernel
set_option maxRecDepth 20000 in
theorem ggX4_mass_X4_isGrade : GoodIn wsX4_mass wsX4_isGrade := goodIn_r _ [7, 8, 15, 16, 17, 18, 19, 20, 21, 22, 23, 24, 25, 26, 27] (by decide +kernel) (by decide +kernel)
set_option maxRecDepth 20000 in
theorem gX4_mass_X4_isGrade : GoodIn wsX4_mass (wsV RX4 86 RX4 yX4_isGrade wsX4_isGrade) := goodIn_app (goodIn_of _ (by decide +kernel)) ggX4_mass_X4_isGrade
set_option maxRecDepth 20000 in
theorem ggX4_mass_X4_massOfAnHour : GoodIn wsX4_mass wsX4_massOfAnHour := goodIn_r _ [12, 13, 14, 3, 4, 5, 6, 7, 8, 15, 16, 17, 18, 19, 20, 21, 22, 23, 24, 25, 26, 27] (by decide +kernel) (by decide +kernel)
set_option maxRecDepth 20000 in
theorem gX4_mass_X4_massOfAnHour : GoodIn wsX4_mass (wsV RX4 118 RX4 yX4_massOfAnHour wsX4_massOfAnHour) := goodIn_app (goodIn_of _ (by decide +kernel)) ggX4_mass_X4_massOfAnHour
theorem dX4_mass_0 : decode cX4_mass 0 = .ok (.aload_n 0, 1) := by decide +kernel
theorem dX4_mass_1 : decode cX4_mass 1 = .ok (.iload_n 1, 1) := by decide +kernel
theorem dX4_mass_2 : decode cX4_mass 2 = .ok (.invokevirtual 86, 3) := by decide +kernel
theorem dX4_mass_5 : decode cX4_mass 5 = .ok (.ifCond .ne 13, 3) := by decide +kernel
theorem dX4_mass_8 : decode cX4_mass 8 = .ok (.new 89, 3) := by decide +kernel
theorem dX4_mass_11 : decode cX4_mass 11 = .ok (.dup, 1) := by decide +kernel
theorem dX4_mass_12 : decode cX4_mass 12 = .ok (.ldc 91, 2) := by decide +kernel
theorem dX4_mass_14 : decode cX4_mass 14 = .ok (.invokespecial 93, 3) := by decide +kernel
theorem dX4_mass_17 : decode cX4_mass 17 = .ok (.athrow, 1) := by decide +kernel
theorem dX4_mass_18 : decode cX4_mass 18 = .ok (.aload_n 0, 1) := by decide +kernel
theorem dX4_mass_19 : decode cX4_mass 19 = .ok (.iload_n 1, 1) := by decide +kernel
theorem dX4_mass_20 : decode cX4_mass 20 = .ok (.invokevirtual 118, 3) := by decide +kernel
theorem dX4_mass_23 : decode cX4_mass 23 = .ok (.ireturn, 1) := by decide +kernel
set_option maxRecDepth 20000 in
theorem ggX4_order_X4_isGrade : GoodIn wsX4_order wsX4_isGrade := goodIn_r _ [15, 16, 35, 36, 37, 38, 39, 40, 41, 42, 43, 44, 45, 46, 47] (by decide +kernel) (by decide +kernel)
set_option maxRecDepth 20000 in
theorem gX4_order_X4_isGrade : GoodIn wsX4_order (wsV RX4 86 RX4 yX4_isGrade wsX4_isGrade) := goodIn_app (goodIn_of _ (by decide +kernel)) ggX4_order_X4_isGrade
set_option maxRecDepth 20000 in
theorem ggX4_order_X4_isWithin : GoodIn wsX4_order wsX4_isWithin := goodIn_r _ [19] (by decide +kernel) (by decide +kernel)
set_option maxRecDepth 20000 in
theorem gX4_order_X4_isWithin : GoodIn wsX4_order (va_wsS RX4 55 yX4_isWithin wsX4_isWithin) := goodIn_app (goodIn_of _ (by decide +kernel)) ggX4_order_X4_isWithin
set_option maxRecDepth 20000 in
theorem ggX4_order_X3_isFull : GoodIn wsX4_order wsX3_isFull := goodIn_r _ [24, 25, 48, 49, 50, 51, 52] (by decide +kernel) (by decide +kernel)
set_option maxRecDepth 20000 in
theorem gX4_order_X3_isFull : GoodIn wsX4_order (wsV RX4 128 RX3 yX3_isFull wsX3_isFull) := goodIn_app (goodIn_of _ (by decide +kernel)) ggX4_order_X3_isFull
set_option maxRecDepth 20000 in
theorem ggX4_order_X3_write : GoodIn wsX4_order wsX3_write := goodIn_r _ [29, 25, 30, 31, 32, 33, 34, 21, 22, 23, 24, 48, 49, 50, 51, 52] (by decide +kernel) (by decide +kernel)
set_option maxRecDepth 20000 in
theorem gX4_order_X3_write : GoodIn wsX4_order (wsV RX4 134 RX3 yX3_write wsX3_write) := goodIn_app (goodIn_of _ (by decide +kernel)) ggX4_order_X3_write
theorem dX4_order_0 : decode cX4_order 0 = .ok (.aload_n 0, 1) := by decide +kernel
theorem dX4_order_1 : decode cX4_order 1 = .ok (.iload_n 1, 1) := by decide +kernel
theorem dX4_order_2 : decode cX4_order 2 = .ok (.invokevirtual 86, 3) := by decide +kernel
theorem dX4_order_5 : decode cX4_order 5 = .ok (.ifCond .ne 13, 3) := by decide +kernel
theorem dX4_order_8 : decode cX4_order 8 = .ok (.new 89, 3) := by decide +kernel
theorem dX4_order_11 : decode cX4_order 11 = .ok (.dup, 1) := by decide +kernel
theorem dX4_order_12 : decode cX4_order 12 = .ok (.ldc 91, 2) := by decide +kernel
theorem dX4_order_14 : decode cX4_order 14 = .ok (.invokespecial 93, 3) := by decide +kernel
theorem dX4_order_17 : decode cX4_order 17 = .ok (.athrow, 1) := by decide +kernel
theorem dX4_order_18 : decode cX4_order 18 = .ok (.iload_n 2, 1) := by decide +kernel
theorem dX4_order_19 : decode cX4_order 19 = .ok (.bipush 20, 2) := by decide +kernel
theorem dX4_order_21 : decode cX4_order 21 = .ok (.sipush 400, 3) := by decide +kernel
theorem dX4_order_24 : decode cX4_order 24 = .ok (.invokestatic 55, 3) := by decide +kernel
theorem dX4_order_27 : decode cX4_order 27 = .ok (.ifCond .eq 13, 3) := by decide +kernel
theorem dX4_order_30 : decode cX4_order 30 = .ok (.iload_n 3, 1) := by decide +kernel
theorem dX4_order_31 : decode cX4_order 31 = .ok (.iconst 1, 1) := by decide +kernel
theorem dX4_order_32 : decode cX4_order 32 = .ok (.bipush 50, 2) := by decide +kernel
theorem dX4_order_34 : decode cX4_order 34 = .ok (.invokestatic 55, 3) := by decide +kernel
theorem dX4_order_37 : decode cX4_order 37 = .ok (.ifCond .ne 13, 3) := by decide +kernel
theorem dX4_order_40 : decode cX4_order 40 = .ok (.new 63, 3) := by decide +kernel
theorem dX4_order_43 : decode cX4_order 43 = .ok (.dup, 1) := by decide +kernel
theorem dX4_order_44 : decode cX4_order 44 = .ok (.ldc 121, 2) := by decide +kernel
theorem dX4_order_46 : decode cX4_order 46 = .ok (.invokespecial 67, 3) := by decide +kernel
theorem dX4_order_49 : decode cX4_order 49 = .ok (.athrow, 1) := by decide +kernel
theorem dX4_order_50 : decode cX4_order 50 = .ok (.iload_n 2, 1) := by decide +kernel
theorem dX4_order_51 : decode cX4_order 51 = .ok (.aload_n 0, 1) := by decide +kernel
theorem dX4_order_52 : decode cX4_order 52 = .ok (.getfield 13, 3) := by decide +kernel
theorem dX4_order_55 : decode cX4_order 55 = .ok (.if_icmp .le 13, 3) := by decide +kernel
theorem dX4_order_58 : decode cX4_order 58 = .ok (.new 123, 3) := by decide +kernel
theorem dX4_order_61 : decode cX4_order 61 = .ok (.dup, 1) := by decide +kernel
theorem dX4_order_62 : decode cX4_order 62 = .ok (.ldc 125, 2) := by decide +kernel
theorem dX4_order_64 : decode cX4_order 64 = .ok (.invokespecial 127, 3) := by decide +kernel
theorem dX4_order_67 : decode cX4_order 67 = .ok (.athrow, 1) := by decide +kernel
theorem dX4_order_68 : decode cX4_order 68 = .ok (.aload_n 0, 1) := by decide +kernel
theorem dX4_order_69 : decode cX4_order 69 = .ok (.getfield 27, 3) := by decide +kernel
theorem dX4_order_72 : decode cX4_order 72 = .ok (.invokevirtual 128, 3) := by decide +kernel
theorem dX4_order_75 : decode cX4_order 75 = .ok (.ifCond .eq 13, 3) := by decide +kernel
theorem dX4_order_78 : decode cX4_order 78 = .ok (.new 73, 3) := by decide +kernel
theorem dX4_order_81 : decode cX4_order 81 = .ok (.dup, 1) := by decide +kernel
theorem dX4_order_82 : decode cX4_order 82 = .ok (.ldc 132, 2) := by decide +kernel
theorem dX4_order_84 : decode cX4_order 84 = .ok (.invokespecial 77, 3) := by decide +kernel
theorem dX4_order_87 : decode cX4_order 87 = .ok (.athrow, 1) := by decide +kernel
theorem dX4_order_88 : decode cX4_order 88 = .ok (.aload_n 0, 1) := by decide +kernel
theorem dX4_order_89 : decode cX4_order 89 = .ok (.getfield 27, 3) := by decide +kernel
theorem dX4_order_92 : decode cX4_order 92 = .ok (.iload_n 1, 1) := by decide +kernel
theorem dX4_order_93 : decode cX4_order 93 = .ok (.iload_n 2, 1) := by decide +kernel
theorem dX4_order_94 : decode cX4_order 94 = .ok (.iload_n 3, 1) := by decide +kernel
theorem dX4_order_95 : decode cX4_order 95 = .ok (.invokevirtual 134, 3) := by decide +kernel
theorem dX4_order_98 : decode cX4_order 98 = .ok (.ireturn, 1) := by decide +kernel
set_option maxRecDepth 20000 in
theorem ggX4_cut_X3_has : GoodIn wsX4_cut wsX3_has := goodIn_r _ [9, 10, 24, 25, 26, 27, 28] (by decide +kernel) (by decide +kernel)
set_option maxRecDepth 20000 in
theorem gX4_cut_X3_has : GoodIn wsX4_cut (wsV RX4 138 RX3 yX3_has wsX3_has) := goodIn_app (goodIn_of _ (by decide +kernel)) ggX4_cut_X3_has
theorem dX4_cut_0 : decode cX4_cut 0 = .ok (.aload_n 0, 1) := by decide +kernel
theorem dX4_cut_1 : decode cX4_cut 1 = .ok (.getfield 27, 3) := by decide +kernel
theorem dX4_cut_4 : decode cX4_cut 4 = .ok (.iload_n 1, 1) := by decide +kernel
theorem dX4_cut_5 : decode cX4_cut 5 = .ok (.invokevirtual 138, 3) := by decide +kernel
theorem dX4_cut_8 : decode cX4_cut 8 = .ok (.ifCond .ne 13, 3) := by decide +kernel
theorem dX4_cut_11 : decode cX4_cut 11 = .ok (.new 89, 3) := by decide +kernel
theorem dX4_cut_14 : decode cX4_cut 14 = .ok (.dup, 1) := by decide +kernel
theorem dX4_cut_15 : decode cX4_cut 15 = .ok (.ldc 141, 2) := by decide +kernel
