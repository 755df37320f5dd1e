theorem dX4_cut_17 : decode cX4_cut 17 = .ok (.invokespecial 93, 3) := by decide +kernel
theorem dX4_cut_20 : decode cX4_cut 20 = .ok (.athrow, 1) := by decide +kernel
theorem dX4_cut_21 : decode cX4_cut 21 = .ok (.aload_n 0, 1) := by decide +kernel
theorem dX4_cut_22 : decode cX4_cut 22 = .ok (.getfield 27, 3) := by decide +kernel
theorem dX4_cut_25 : decode cX4_cut 25 = .ok (.getfield 148, 3) := by decide +kernel
theorem dX4_cut_28 : decode cX4_cut 28 = .ok (.iload_n 1, 1) := by decide +kernel
theorem dX4_cut_29 : decode cX4_cut 29 = .ok (.iaload, 1) := by decide +kernel
theorem dX4_cut_30 : decode cX4_cut 30 = .ok (.ireturn, 1) := by decide +kernel
set_option maxRecDepth 20000 in
theorem ggX4_lacks_X3_has : GoodIn wsX4_lacks wsX3_has := goodIn_r _ [9, 10, 24, 25, 26, 27, 28] (by decide +kernel) (by decide +kernel)
set_option maxRecDepth 20000 in
theorem gX4_lacks_X3_has : GoodIn wsX4_lacks (wsV RX4 138 RX3 yX3_has wsX3_has) := goodIn_app (goodIn_of _ (by decide +kernel)) ggX4_lacks_X3_has
theorem dX4_lacks_0 : decode cX4_lacks 0 = .ok (.aload_n 0, 1) := by decide +kernel
theorem dX4_lacks_1 : decode cX4_lacks 1 = .ok (.getfield 27, 3) := by decide +kernel
theorem dX4_lacks_4 : decode cX4_lacks 4 = .ok (.iload_n 1, 1) := by decide +kernel
theorem dX4_lacks_5 : decode cX4_lacks 5 = .ok (.invokevirtual 138, 3) := by decide +kernel
theorem dX4_lacks_8 : decode cX4_lacks 8 = .ok (.ifCond .ne 13, 3) := by decide +kernel
theorem dX4_lacks_11 : decode cX4_lacks 11 = .ok (.new 89, 3) := by decide +kernel
theorem dX4_lacks_14 : decode cX4_lacks 14 = .ok (.dup, 1) := by decide +kernel
theorem dX4_lacks_15 : decode cX4_lacks 15 = .ok (.ldc 141, 2) := by decide +kernel
theorem dX4_lacks_17 : decode cX4_lacks 17 = .ok (.invokespecial 93, 3) := by decide +kernel
theorem dX4_lacks_20 : decode cX4_lacks 20 = .ok (.athrow, 1) := by decide +kernel
theorem dX4_lacks_21 : decode cX4_lacks 21 = .ok (.aload_n 0, 1) := by decide +kernel
theorem dX4_lacks_22 : decode cX4_lacks 22 = .ok (.getfield 27, 3) := by decide +kernel
theorem dX4_lacks_25 : decode cX4_lacks 25 = .ok (.getfield 143, 3) := by decide +kernel
theorem dX4_lacks_28 : decode cX4_lacks 28 = .ok (.iload_n 1, 1) := by decide +kernel
theorem dX4_lacks_29 : decode cX4_lacks 29 = .ok (.iaload, 1) := by decide +kernel
theorem dX4_lacks_30 : decode cX4_lacks 30 = .ok (.ireturn, 1) := by decide +kernel
set_option maxRecDepth 20000 in
theorem ggX4_trim_X4_isGrade : GoodIn wsX4_trim wsX4_isGrade := goodIn_r _ [10, 11, 59, 60, 61, 62, 63, 64, 65, 66, 67, 68, 69, 70, 71] (by decide +kernel) (by decide +kernel)
set_option maxRecDepth 20000 in
theorem gX4_trim_X4_isGrade : GoodIn wsX4_trim (wsV RX4 86 RX4 yX4_isGrade wsX4_isGrade) := goodIn_app (goodIn_of _ (by decide +kernel)) ggX4_trim_X4_isGrade
set_option maxRecDepth 20000 in
theorem ggX4_trim_X1_load : GoodIn wsX4_trim wsX1_load := goodIn_r _ [16, 17, 18, 19, 20, 21, 22, 23, 24, 25, 26, 27, 28, 29, 30, 31, 32, 33, 34, 35, 36, 72, 73, 74, 75, 76, 77, 78, 79, 80, 81, 82, 83, 84] (by decide +kernel) (by decide +kernel)
set_option maxRecDepth 20000 in
theorem gX4_trim_X1_load : GoodIn wsX4_trim (wsV RX4 151 RX1 yX1_load wsX1_load) := goodIn_app (goodIn_of _ (by decide +kernel)) ggX4_trim_X1_load
set_option maxRecDepth 20000 in
theorem ggX4_trim_X1_sumBySearch : GoodIn wsX4_trim wsX1_sumBySearch := goodIn_r _ [40, 41, 42, 43, 44, 45, 46, 47, 48, 15, 49, 30, 24, 17, 18, 19, 20, 28, 26, 50, 51, 52, 53, 54, 55, 56, 57, 58, 72, 73, 74, 75, 76, 77, 78, 79] (by decide +kernel) (by decide +kernel)
set_option maxRecDepth 20000 in
theorem gX4_trim_X1_sumBySearch : GoodIn wsX4_trim (wsV RX4 155 RX1 yX1_sumBySearch wsX1_sumBySearch) := goodIn_app (goodIn_of _ (by decide +kernel)) ggX4_trim_X1_sumBySearch
theorem dX4_trim_0 : decode cX4_trim 0 = .ok (.aload_n 0, 1) := by decide +kernel
theorem dX4_trim_1 : decode cX4_trim 1 = .ok (.iload_n 1, 1) := by decide +kernel
theorem dX4_trim_2 : decode cX4_trim 2 = .ok (.invokevirtual 86, 3) := by decide +kernel
theorem dX4_trim_5 : decode cX4_trim 5 = .ok (.ifCond .ne 13, 3) := by decide +kernel
theorem dX4_trim_8 : decode cX4_trim 8 = .ok (.new 89, 3) := by decide +kernel
theorem dX4_trim_11 : decode cX4_trim 11 = .ok (.dup, 1) := by decide +kernel
theorem dX4_trim_12 : decode cX4_trim 12 = .ok (.ldc 91, 2) := by decide +kernel
theorem dX4_trim_14 : decode cX4_trim 14 = .ok (.invokespecial 93, 3) := by decide +kernel
theorem dX4_trim_17 : decode cX4_trim 17 = .ok (.athrow, 1) := by decide +kernel
theorem dX4_trim_18 : decode cX4_trim 18 = .ok (.aload_n 0, 1) := by decide +kernel
theorem dX4_trim_19 : decode cX4_trim 19 = .ok (.getfield 34, 3) := by decide +kernel
theorem dX4_trim_22 : decode cX4_trim 22 = .ok (.aload_n 0, 1) := by decide +kernel
theorem dX4_trim_23 : decode cX4_trim 23 = .ok (.getfield 27, 3) := by decide +kernel
theorem dX4_trim_26 : decode cX4_trim 26 = .ok (.iload_n 1, 1) := by decide +kernel
theorem dX4_trim_27 : decode cX4_trim 27 = .ok (.aload_n 0, 1) := by decide +kernel
theorem dX4_trim_28 : decode cX4_trim 28 = .ok (.getfield 13, 3) := by decide +kernel
theorem dX4_trim_31 : decode cX4_trim 31 = .ok (.invokevirtual 151, 3) := by decide +kernel
theorem dX4_trim_34 : decode cX4_trim 34 = .ok (.aload_n 0, 1) := by decide +kernel
theorem dX4_trim_35 : decode cX4_trim 35 = .ok (.getfield 13, 3) := by decide +kernel
theorem dX4_trim_38 : decode cX4_trim 38 = .ok (.aload_n 0, 1) := by decide +kernel
theorem dX4_trim_39 : decode cX4_trim 39 = .ok (.getfield 34, 3) := by decide +kernel
theorem dX4_trim_42 : decode cX4_trim 42 = .ok (.invokevirtual 155, 3) := by decide +kernel
theorem dX4_trim_45 : decode cX4_trim 45 = .ok (.isub, 1) := by decide +kernel
theorem dX4_trim_46 : decode cX4_trim 46 = .ok (.ireturn, 1) := by decide +kernel
set_option maxRecDepth 20000 in
theorem ggX4_setShare_X4_isWithin : GoodIn wsX4_setShare wsX4_isWithin := goodIn_r _ [7] (by decide +kernel) (by decide +kernel)
set_option maxRecDepth 20000 in
theorem gX4_setShare_X4_isWithin : GoodIn wsX4_setShare (va_wsS RX4 55 yX4_isWithin wsX4_isWithin) := goodIn_app (goodIn_of _ (by decide +kernel)) ggX4_setShare_X4_isWithin
theorem dX4_setShare_0 : decode cX4_setShare 0 = .ok (.iload_n 1, 1) := by decide +kernel
theorem dX4_setShare_1 : decode cX4_setShare 1 = .ok (.iconst 0, 1) := by decide +kernel
theorem dX4_setShare_2 : decode cX4_setShare 2 = .ok (.bipush 50, 2) := by decide +kernel
theorem dX4_setShare_4 : decode cX4_setShare 4 = .ok (.invokestatic 55, 3) := by decide +kernel
theorem dX4_setShare_7 : decode cX4_setShare 7 = .ok (.ifCond .ne 13, 3) := by decide +kernel
theorem dX4_setShare_10 : decode cX4_setShare 10 = .ok (.new 63, 3) := by decide +kernel
theorem dX4_setShare_13 : decode cX4_setShare 13 = .ok (.dup, 1) := by decide +kernel
theorem dX4_setShare_14 : decode cX4_setShare 14 = .ok (.ldc 180, 2) := by decide +kernel
theorem dX4_setShare_16 : decode cX4_setShare 16 = .ok (.invokespecial 67, 3) := by decide +kernel
theorem dX4_setShare_19 : decode cX4_setShare 19 = .ok (.athrow, 1) := by decide +kernel
theorem dX4_setShare_20 : decode cX4_setShare 20 = .ok (.aload_n 0, 1) := by decide +kernel
theorem dX4_setShare_21 : decode cX4_setShare 21 = .ok (.getfield 52, 3) := by decide +kernel
theorem dX4_setShare_24 : decode cX4_setShare 24 = .ok (.istore_n 2, 1) := by decide +kernel
theorem dX4_setShare_25 : decode cX4_setShare 25 = .ok (.aload_n 0, 1) := by decide +kernel
theorem dX4_setShare_26 : decode cX4_setShare 26 = .ok (.iload_n 1, 1) := by decide +kernel
theorem dX4_setShare_27 : decode cX4_setShare 27 = .ok (.putfield 52, 3) := by decide +kernel
theorem dX4_setShare_30 : decode cX4_setShare 30 = .ok (.iload_n 2, 1) := by decide +kernel
theorem dX4_setShare_31 : decode cX4_setShare 31 = .ok (.ireturn, 1) := by decide +kernel
set_option maxRecDepth 20000 in
theorem ggX4_setContract_X4_isWithin : GoodIn wsX4_setContract wsX4_isWithin := goodIn_r _ [10] (by decide +kernel) (by decide +kernel)
set_option maxRecDepth 20000 in
theorem gX4_setContract_X4_isWithin : GoodIn wsX4_setContract (va_wsS RX4 55 yX4_isWithin wsX4_isWithin) := goodIn_app (goodIn_of _ (by decide +kernel)) ggX4_setContract_X4_isWithin
theorem dX4_setContract_0 : decode cX4_setContract 0 = .ok (.iload_n 1, 1) := by decide +kernel
theorem dX4_setContract_1 : decode cX4_setContract 1 = .ok (.iconst 0, 1) := by decide +kernel
theorem dX4_setContract_2 : decode cX4_setContract 2 = .ok (.sipush 9999, 3) := by decide +kernel
theorem dX4_setContract_5 : decode cX4_setContract 5 = .ok (.invokestatic 55, 3) := by decide +kernel
theorem dX4_setContract_8 : decode cX4_setContract 8 = .ok (.ifCond .eq 23, 3) := by decide +kernel
theorem dX4_setContract_11 : decode cX4_setContract 11 = .ok (.iload_n 2, 1) := by decide +kernel
theorem dX4_setContract_12 : decode cX4_setContract 12 = .ok (.iconst 0, 1) := by decide +kernel
theorem dX4_setContract_13 : decode cX4_setContract 13 = .ok (.bipush 99, 2) := by decide +kernel
theorem dX4_setContract_15 : decode cX4_setContract 15 = .ok (.invokestatic 55, 3) := by decide +kernel
theorem dX4_setContract_18 : decode cX4_setContract 18 = .ok (.ifCond .eq 13, 3) := by decide +kernel
theorem dX4_setContract_21 : decode cX4_setContract 21 = .ok (.iload_n 3, 1) := by decide +kernel
theorem dX4_setContract_22 : decode cX4_setContract 22 = .ok (.iconst 0, 1) := by decide +kernel
theorem dX4_setContract_23 : decode cX4_setContract 23 = .ok (.bipush 99, 2) := by decide +kernel
theorem dX4_setContract_25 : decode cX4_setContract 25 = .ok (.invokestatic 55, 3) := by decide +kernel
theorem dX4_setContract_28 : decode cX4_setContract 28 = .ok (.ifCond .ne 13, 3) := by decide +kernel
theorem dX4_setContract_31 : decode cX4_setContract 31 = .ok (.new 63, 3) := by decide +kernel
theorem dX4_setContract_34 : decode cX4_setContract 34 = .ok (.dup, 1) := by decide +kernel
theorem dX4_setContract_35 : decode cX4_setContract 35 = .ok (.ldc 182, 2) := by decide +kernel
theorem dX4_setContract_37 : decode cX4_setContract 37 = .ok (.invokespecial 67, 3) := by decide +kernel
theorem dX4_setContract_40 : decode cX4_setContract 40 = .ok (.athrow, 1) := by decide +kernel
theorem dX4_setContract_41 : decode cX4_setContract 41 = .ok (.aload_n 0, 1) := by decide +kernel
theorem dX4_setContract_42 : decode cX4_setContract 42 = .ok (.getfield 41, 3) := by decide +kernel
theorem dX4_setContract_45 : decode cX4_setContract 45 = .ok (.getfield 184, 3) := by decide +kernel
theorem dX4_setContract_48 : decode cX4_setContract 48 = .ok (.istore 4, 2) := by decide +kernel
theorem dX4_setContract_50 : decode cX4_setContract 50 = .ok (.aload_n 0, 1) := by decide +kernel
theorem dX4_setContract_51 : decode cX4_setContract 51 = .ok (.getfield 41, 3) := by decide +kernel
theorem dX4_setContract_54 : decode cX4_setContract 54 = .ok (.iload_n 1, 1) := by decide +kernel
theorem dX4_setContract_55 : decode cX4_setContract 55 = .ok (.putfield 184, 3) := by decide +kernel
theorem dX4_setContract_58 : decode cX4_setContract 58 = .ok (.aload_n 0, 1) := by decide +kernel
theorem dX4_setContract_59 : decode cX4_setContract 59 = .ok (.getfield 41, 3) := by decide +kernel
theorem dX4_setContract_62 : decode cX4_setContract 62 = .ok (.iload_n 2, 1) := by decide +kernel
theorem dX4_setContract_63 : decode cX4_setContract 63 = .ok (.putfield 187, 3) := by decide +kernel
theorem dX4_setContract_66 : decode cX4_setContract 66 = .ok (.aload_n 0, 1) := by decide +kernel
theorem dX4_setContract_67 : decode cX4_setContract 67 = .ok (.getfield 41, 3) := by decide +kernel
theorem dX4_setContract_70 : decode cX4_setContract 70 = .ok (.iload_n 3, 1) := by decide +kernel
theorem dX4_setContract_71 : decode cX4_setContract 71 = .ok (.putfield 190, 3) := by decide +kernel
theorem dX4_setContract_74 : decode cX4_setContract 74 = .ok (.iload 4, 2) := by decide +kernel
theorem dX4_setContract_76 : decode cX4_setContract 76 = .ok (.ireturn, 1) := by decide +kernel
set_option maxRecDepth 20000 in
theorem ggX4_pass_X4_isWithin : GoodIn wsX4_pass wsX4_isWithin := goodIn_r _ [10] (by decide +kernel) (by decide +kernel)
set_option maxRecDepth 20000 in
theorem gX4_pass_X4_isWithin : GoodIn wsX4_pass (va_wsS RX4 55 yX4_isWithin wsX4_isWithin) := goodIn_app (goodIn_of _ (by decide +kernel)) ggX4_pass_X4_isWithin
set_option maxRecDepth 20000 in
theorem ggX4_pass_X4_passAnHour : GoodIn wsX4_pass wsX4_passAnHour := goodIn_r _ [14, 15, 5, 16, 17, 18, 19, 20, 21, 22, 23, 9, 24, 25, 26, 27, 28, 29, 30, 31, 32, 33, 34, 35, 36, 37, 38, 39, 40, 41, 42, 43, 44, 45, 46, 47, 48, 49, 50, 51, 52, 53, 54, 55, 56, 57, 58, 59, 60, 61, 62, 63, 64, 65, 66, 67, 68, 69, 70, 71, 72, 73, 74, 75, 76, 77, 78, 79, 80, 81, 82, 83, 84, 85, 86, 87, 88, 89, 90, 91, 92, 93, 94, 95, 96, 97, 98, 99, 100, 101, 102, 103, 104, 105, 106, 107, 108, 109, 110, 111, 112, 113, 114, 115, 116, 117, 118, 119, 120, 121, 122, 123, 124, 125, 126, 127, 128, 129, 130, 131, 132, 133, 134, 135, 136, 137, 138, 139, 140, 141, 142, 154, 155, 156, 157, 158, 159, 160, 161, 143, 144, 145, 146, 147, 148, 149, 150, 151, 152, 153, 162, 163, 164, 165, 166, 167, 168, 169] (by decide +kernel) (by decide +kernel)
set_option maxRecDepth 20000 in
theorem gX4_pass_X4_passAnHour : GoodIn wsX4_pass (wsV RX4 200 RX4 yX4_passAnHour wsX4_passAnHour) := goodIn_app (goodIn_of _ (by decide +kernel)) ggX4_pass_X4_passAnHour
theorem dX4_pass_0 : decode cX4_pass 0 = .ok (.iload_n 1, 1) := by decide +kernel
theorem dX4_pass_1 : decode cX4_pass 1 = .ok (.iconst 1, 1) := by decide +kernel
theorem dX4_pass_2 : decode cX4_pass 2 = .ok (.bipush 48, 2) := by decide +kernel
theorem dX4_pass_4 : decode cX4_pass 4 = .ok (.invokestatic 55, 3) := by decide +kernel
theorem dX4_pass_7 : decode cX4_pass 7 = .ok (.ifCond .ne 13, 3) := by decide +kernel
theorem dX4_pass_10 : decode cX4_pass 10 = .ok (.new 63, 3) := by decide +kernel
theorem dX4_pass_13 : decode cX4_pass 13 = .ok (.dup, 1) := by decide +kernel
theorem dX4_pass_14 : decode cX4_pass 14 = .ok (.ldc 193, 2) := by decide +kernel
theorem dX4_pass_16 : decode cX4_pass 16 = .ok (.invokespecial 67, 3) := by decide +kernel
theorem dX4_pass_19 : decode cX4_pass 19 = .ok (.athrow, 1) := by decide +kernel
theorem dX4_pass_20 : decode cX4_pass 20 = .ok (.iload_n 1, 1) := by decide +kernel
theorem dX4_pass_21 : decode cX4_pass 21 = .ok (.sipush 400, 3) := by decide +kernel
theorem dX4_pass_24 : decode cX4_pass 24 = .ok (.aload_n 0, 1) := by decide +kernel
theorem dX4_pass_25 : decode cX4_pass 25 = .ok (.getfield 48, 3) := by decide +kernel
theorem dX4_pass_28 : decode cX4_pass 28 = .ok (.getfield 195, 3) := by decide +kernel
theorem dX4_pass_31 : decode cX4_pass 31 = .ok (.isub, 1) := by decide +kernel
theorem dX4_pass_32 : decode cX4_pass 32 = .ok (.if_icmp .le 13, 3) := by decide +kernel
theorem dX4_pass_35 : decode cX4_pass 35 = .ok (.new 73, 3) := by decide +kernel
theorem dX4_pass_38 : decode cX4_pass 38 = .ok (.dup, 1) := by decide +kernel
theorem dX4_pass_39 : decode cX4_pass 39 = .ok (.ldc 198, 2) := by decide +kernel
theorem dX4_pass_41 : decode cX4_pass 41 = .ok (.invokespecial 77, 3) := by decide +kernel
theorem dX4_pass_44 : decode cX4_pass 44 = .ok (.athrow, 1) := by decide +kernel
theorem dX4_pass_45 : decode cX4_pass 45 = .ok (.iconst 0, 1) := by decide +kernel
theorem dX4_pass_46 : decode cX4_pass 46 = .ok (.istore_n 2, 1) := by decide +kernel
theorem dX4_pass_47 : decode cX4_pass 47 = .ok (.iconst 0, 1) := by decide +kernel
theorem dX4_pass_48 : decode cX4_pass 48 = .ok (.istore_n 3, 1) := by decide +kernel
theorem dX4_pass_49 : decode cX4_pass 49 = .ok (.iload_n 3, 1) := by decide +kernel
theorem dX4_pass_50 : decode cX4_pass 50 = .ok (.iload_n 1, 1) := by decide +kernel
theorem dX4_pass_51 : decode cX4_pass 51 = .ok (.if_icmp .ge 16, 3) := by decide +kernel
theorem dX4_pass_54 : decode cX4_pass 54 = .ok (.iload_n 2, 1) := by decide +kernel
theorem dX4_pass_55 : decode cX4_pass 55 = .ok (.aload_n 0, 1) := by decide +kernel
theorem dX4_pass_56 : decode cX4_pass 56 = .ok (.invokevirtual 200, 3) := by decide +kernel
theorem dX4_pass_59 : decode cX4_pass 59 = .ok (.iadd, 1) := by decide +kernel
theorem dX4_pass_60 : decode cX4_pass 60 = .ok (.istore_n 2, 1) := by decide +kernel
theorem dX4_pass_61 : decode cX4_pass 61 = .ok (.iinc 3 1, 3) := by decide +kernel
theorem dX4_pass_64 : decode cX4_pass 64 = .ok (.goto (-15), 3) := by decide +kernel
theorem dX4_pass_67 : decode cX4_pass 67 = .ok (.iload_n 2, 1) := by decide +kernel
theorem dX4_pass_68 : decode cX4_pass 68 = .ok (.ireturn, 1) := by decide +kernel
theorem dX4_hours_0 : decode cX4_hours 0 = .ok (.aload_n 0, 1) := by decide +kernel
theorem dX4_hours_1 : decode cX4_hours 1 = .ok (.getfield 48, 3) := by decide +kernel
theorem dX4_hours_4 : decode cX4_hours 4 = .ok (.getfield 195, 3) := by decide +kernel
theorem dX4_hours_7 : decode cX4_hours 7 = .ok (.ireturn, 1) := by decide +kernel
theorem dX4_broke_0 : decode cX4_broke 0 = .ok (.aload_n 0, 1) := by decide +kernel
theorem dX4_broke_1 : decode cX4_broke 1 = .ok (.getfield 203, 3) := by decide +kernel
theorem dX4_broke_4 : decode cX4_broke 4 = .ok (.ireturn, 1) := by decide +kernel
set_option maxRecDepth 20000 in
theorem ggX4_brokeByHours_X2_fibreStillThere : GoodIn wsX4_brokeByHours wsX2_fibreStillThere := goodIn_r _ [6, 7, 8, 9, 10, 24, 25, 26, 27, 28, 29, 30, 31, 32, 33, 34] (by decide +kernel) (by decide +kernel)
set_option maxRecDepth 20000 in
theorem gX4_brokeByHours_X2_fibreStillThere : GoodIn wsX4_brokeByHours (wsV RX4 206 RX2 yX2_fibreStillThere wsX2_fibreStillThere) := goodIn_app (goodIn_of _ (by decide +kernel)) ggX4_brokeByHours_X2_fibreStillThere
theorem dX4_brokeByHours_0 : decode cX4_brokeByHours 0 = .ok (.aload_n 0, 1) := by decide +kernel
theorem dX4_brokeByHours_1 : decode cX4_brokeByHours 1 = .ok (.getfield 48, 3) := by decide +kernel
theorem dX4_brokeByHours_4 : decode cX4_brokeByHours 4 = .ok (.invokevirtual 206, 3) := by decide +kernel
theorem dX4_brokeByHours_7 : decode cX4_brokeByHours 7 = .ok (.ireturn, 1) := by decide +kernel
theorem dX4_fresh_0 : decode cX4_fresh 0 = .ok (.aload_n 0, 1) := by decide +kernel
theorem dX4_fresh_1 : decode cX4_fresh 1 = .ok (.getfield 48, 3) := by decide +kernel
theorem dX4_fresh_4 : decode cX4_fresh 4 = .ok (.getfield 209, 3) := by decide +kernel
theorem dX4_fresh_7 : decode cX4_fresh 7 = .ok (.lreturn, 1) := by decide +kernel
theorem dX4_paper_0 : decode cX4_paper 0 = .ok (.aload_n 0, 1) := by decide +kernel
theorem dX4_paper_1 : decode cX4_paper 1 = .ok (.getfield 48, 3) := by decide +kernel
theorem dX4_paper_4 : decode cX4_paper 4 = .ok (.getfield 213, 3) := by decide +kernel
theorem dX4_paper_7 : decode cX4_paper 7 = .ok (.lreturn, 1) := by decide +kernel
theorem dX4_lost_0 : decode cX4_lost 0 = .ok (.aload_n 0, 1) := by decide +kernel
theorem dX4_lost_1 : decode cX4_lost 1 = .ok (.getfield 48, 3) := by decide +kernel
theorem dX4_lost_4 : decode cX4_lost 4 = .ok (.getfield 216, 3) := by decide +kernel
theorem dX4_lost_7 : decode cX4_lost 7 = .ok (.lreturn, 1) := by decide +kernel
set_option maxRecDepth 20000 in
theorem ggX4_made_X2_has : GoodIn wsX4_made wsX2_has := goodIn_r _ [9, 10, 24, 25, 26, 27, 28, 29, 30, 31, 32, 33, 34] (by decide +kernel) (by decide +kernel)
set_option maxRecDepth 20000 in
theorem gX4_made_X2_has : GoodIn wsX4_made (wsV RX4 219 RX2 yX2_has wsX2_has) := goodIn_app (goodIn_of _ (by decide +kernel)) ggX4_made_X2_has
theorem dX4_made_0 : decode cX4_made 0 = .ok (.aload_n 0, 1) := by decide +kernel
theorem dX4_made_1 : decode cX4_made 1 = .ok (.getfield 48, 3) := by decide +kernel
theorem dX4_made_4 : decode cX4_made 4 = .ok (.iload_n 1, 1) := by decide +kernel
theorem dX4_made_5 : decode cX4_made 5 = .ok (.invokevirtual 219, 3) := by decide +kernel
theorem dX4_made_8 : decode cX4_made 8 = .ok (.ifCond .ne 13, 3) := by decide +kernel
theorem dX4_made_11 : decode cX4_made 11 = .ok (.new 89, 3) := by decide +kernel
theorem dX4_made_14 : decode cX4_made 14 = .ok (.dup, 1) := by decide +kernel
theorem dX4_made_15 : decode cX4_made 15 = .ok (.ldc 220, 2) := by decide +kernel
theorem dX4_made_17 : decode cX4_made 17 = .ok (.invokespecial 93, 3) := by decide +kernel
theorem dX4_made_20 : decode cX4_made 20 = .ok (.athrow, 1) := by decide +kernel
theorem dX4_made_21 : decode cX4_made 21 = .ok (.aload_n 0, 1) := by decide +kernel
theorem dX4_made_22 : decode cX4_made 22 = .ok (.getfield 48, 3) := by decide +kernel
theorem dX4_made_25 : decode cX4_made 25 = .ok (.getfield 222, 3) := by decide +kernel
theorem dX4_made_28 : decode cX4_made 28 = .ok (.iload_n 1, 1) := by decide +kernel
theorem dX4_made_29 : decode cX4_made 29 = .ok (.caload, 1) := by decide +kernel
theorem dX4_made_30 : decode cX4_made 30 = .ok (.ireturn, 1) := by decide +kernel
theorem dX4_steamCost_0 : decode cX4_steamCost 0 = .ok (.aload_n 0, 1) := by decide +kernel
theorem dX4_steamCost_1 : decode cX4_steamCost 1 = .ok (.getfield 226, 3) := by decide +kernel
theorem dX4_steamCost_4 : decode cX4_steamCost 4 = .ok (.lreturn, 1) := by decide +kernel
theorem dX4_paperShare_0 : decode cX4_paperShare 0 = .ok (.aload_n 0, 1) := by decide +kernel
theorem dX4_paperShare_1 : decode cX4_paperShare 1 = .ok (.getfield 48, 3) := by decide +kernel
theorem dX4_paperShare_4 : decode cX4_paperShare 4 = .ok (.getfield 229, 3) := by decide +kernel
theorem dX4_paperShare_7 : decode cX4_paperShare 7 = .ok (.lconst 0, 1) := by decide +kernel
theorem dX4_paperShare_8 : decode cX4_paperShare 8 = .ok (.lcmp, 1) := by decide +kernel
theorem dX4_paperShare_9 : decode cX4_paperShare 9 = .ok (.ifCond .gt 13, 3) := by decide +kernel
theorem dX4_paperShare_12 : decode cX4_paperShare 12 = .ok (.new 232, 3) := by decide +kernel
theorem dX4_paperShare_15 : decode cX4_paperShare 15 = .ok (.dup, 1) := by decide +kernel
theorem dX4_paperShare_16 : decode cX4_paperShare 16 = .ok (.ldc 234, 2) := by decide +kernel
theorem dX4_paperShare_18 : decode cX4_paperShare 18 = .ok (.invokespecial 236, 3) := by decide +kernel
theorem dX4_paperShare_21 : decode cX4_paperShare 21 = .ok (.athrow, 1) := by decide +kernel
theorem dX4_paperShare_22 : decode cX4_paperShare 22 = .ok (.aload_n 0, 1) := by decide +kernel
theorem dX4_paperShare_23 : decode cX4_paperShare 23 = .ok (.getfield 48, 3) := by decide +kernel
theorem dX4_paperShare_26 : decode cX4_paperShare 26 = .ok (.getfield 213, 3) := by decide +kernel
theorem dX4_paperShare_29 : decode cX4_paperShare 29 = .ok (.l2f, 1) := by decide +kernel
theorem dX4_paperShare_30 : decode cX4_paperShare 30 = .ok (.aload_n 0, 1) := by decide +kernel
theorem dX4_paperShare_31 : decode cX4_paperShare 31 = .ok (.getfield 48, 3) := by decide +kernel
theorem dX4_paperShare_34 : decode cX4_paperShare 34 = .ok (.getfield 229, 3) := by decide +kernel
theorem dX4_paperShare_37 : decode cX4_paperShare 37 = .ok (.l2f, 1) := by decide +kernel
theorem dX4_paperShare_38 : decode cX4_paperShare 38 = .ok (.fdiv, 1) := by decide +kernel
theorem dX4_paperShare_39 : decode cX4_paperShare 39 = .ok (.freturn, 1) := by decide +kernel
theorem dX4_meanTrim_0 : decode cX4_meanTrim 0 = .ok (.aload_n 0, 1) := by decide +kernel
theorem dX4_meanTrim_1 : decode cX4_meanTrim 1 = .ok (.getfield 48, 3) := by decide +kernel
theorem dX4_meanTrim_4 : decode cX4_meanTrim 4 = .ok (.getfield 237, 3) := by decide +kernel
theorem dX4_meanTrim_7 : decode cX4_meanTrim 7 = .ok (.ifCond .gt 13, 3) := by decide +kernel
theorem dX4_meanTrim_10 : decode cX4_meanTrim 10 = .ok (.new 232, 3) := by decide +kernel
theorem dX4_meanTrim_13 : decode cX4_meanTrim 13 = .ok (.dup, 1) := by decide +kernel
theorem dX4_meanTrim_14 : decode cX4_meanTrim 14 = .ok (.ldc 240, 2) := by decide +kernel
theorem dX4_meanTrim_16 : decode cX4_meanTrim 16 = .ok (.invokespecial 236, 3) := by decide +kernel
theorem dX4_meanTrim_19 : decode cX4_meanTrim 19 = .ok (.athrow, 1) := by decide +kernel
theorem dX4_meanTrim_20 : decode cX4_meanTrim 20 = .ok (.aload_n 0, 1) := by decide +kernel
theorem dX4_meanTrim_21 : decode cX4_meanTrim 21 = .ok (.getfield 48, 3) := by decide +kernel
theorem dX4_meanTrim_24 : decode cX4_meanTrim 24 = .ok (.getfield 242, 3) := by decide +kernel
theorem dX4_meanTrim_27 : decode cX4_meanTrim 27 = .ok (.l2d, 1) := by decide +kernel
theorem dX4_meanTrim_28 : decode cX4_meanTrim 28 = .ok (.aload_n 0, 1) := by decide +kernel
theorem dX4_meanTrim_29 : decode cX4_meanTrim 29 = .ok (.getfield 48, 3) := by decide +kernel
theorem dX4_meanTrim_32 : decode cX4_meanTrim 32 = .ok (.getfield 237, 3) := by decide +kernel
theorem dX4_meanTrim_35 : decode cX4_meanTrim 35 = .ok (.i2d, 1) := by decide +kernel
theorem dX4_meanTrim_36 : decode cX4_meanTrim 36 = .ok (.ddiv, 1) := by decide +kernel
theorem dX4_meanTrim_37 : decode cX4_meanTrim 37 = .ok (.dreturn, 1) := by decide +kernel
theorem dX4_isGrade_0 : decode cX4_isGrade 0 = .ok (.iload_n 1, 1) := by decide +kernel
theorem dX4_isGrade_1 : decode cX4_isGrade 1 = .ok (.ifCond .lt 15, 3) := by decide +kernel
theorem dX4_isGrade_4 : decode cX4_isGrade 4 = .ok (.iload_n 1, 1) := by decide +kernel
theorem dX4_isGrade_5 : decode cX4_isGrade 5 = .ok (.aload_n 0, 1) := by decide +kernel
theorem dX4_isGrade_6 : decode cX4_isGrade 6 = .ok (.getfield 70, 3) := by decide +kernel
theorem dX4_isGrade_9 : decode cX4_isGrade 9 = .ok (.if_icmp .ge 7, 3) := by decide +kernel
theorem dX4_isGrade_12 : decode cX4_isGrade 12 = .ok (.iconst 1, 1) := by decide +kernel
theorem dX4_isGrade_13 : decode cX4_isGrade 13 = .ok (.goto 4, 3) := by decide +kernel
theorem dX4_isGrade_16 : decode cX4_isGrade 16 = .ok (.iconst 0, 1) := by decide +kernel
theorem dX4_isGrade_17 : decode cX4_isGrade 17 = .ok (.ireturn, 1) := by decide +kernel
theorem dX4_isWeightTaken_0 : decode cX4_isWeightTaken 0 = .ok (.iconst 0, 1) := by decide +kernel
theorem dX4_isWeightTaken_1 : decode cX4_isWeightTaken 1 = .ok (.istore_n 2, 1) := by decide +kernel
theorem dX4_isWeightTaken_2 : decode cX4_isWeightTaken 2 = .ok (.iload_n 2, 1) := by decide +kernel
theorem dX4_isWeightTaken_3 : decode cX4_isWeightTaken 3 = .ok (.aload_n 0, 1) := by decide +kernel
theorem dX4_isWeightTaken_4 : decode cX4_isWeightTaken 4 = .ok (.getfield 70, 3) := by decide +kernel
theorem dX4_isWeightTaken_7 : decode cX4_isWeightTaken 7 = .ok (.if_icmp .ge 21, 3) := by decide +kernel
theorem dX4_isWeightTaken_10 : decode cX4_isWeightTaken 10 = .ok (.aload_n 0, 1) := by decide +kernel
theorem dX4_isWeightTaken_11 : decode cX4_isWeightTaken 11 = .ok (.getfield 9, 3) := by decide +kernel
theorem dX4_isWeightTaken_14 : decode cX4_isWeightTaken 14 = .ok (.iload_n 2, 1) := by decide +kernel
theorem dX4_isWeightTaken_15 : decode cX4_isWeightTaken 15 = .ok (.iaload, 1) := by decide +kernel
theorem dX4_isWeightTaken_16 : decode cX4_isWeightTaken 16 = .ok (.iload_n 1, 1) := by decide +kernel
theorem dX4_isWeightTaken_17 : decode cX4_isWeightTaken 17 = .ok (.if_icmp .ne 5, 3) := by decide +kernel
theorem dX4_isWeightTaken_20 : decode cX4_isWeightTaken 20 = .ok (.iconst 1, 1) := by decide +kernel
theorem dX4_isWeightTaken_21 : decode cX4_isWeightTaken 21 = .ok (.ireturn, 1) := by decide +kernel
theorem dX4_isWeightTaken_22 : decode cX4_isWeightTaken 22 = .ok (.iinc 2 1, 3) := by decide +kernel
theorem dX4_isWeightTaken_25 : decode cX4_isWeightTaken 25 = .ok (.goto (-23), 3) := by decide +kernel
theorem dX4_isWeightTaken_28 : decode cX4_isWeightTaken 28 = .ok (.iconst 0, 1) := by decide +kernel
theorem dX4_isWeightTaken_29 : decode cX4_isWeightTaken 29 = .ok (.ireturn, 1) := by decide +kernel
set_option maxRecDepth 20000 in
theorem ggX4_massOfAnHour_X4_isGrade : GoodIn wsX4_massOfAnHour wsX4_isGrade := goodIn_r _ [7, 8, 9, 10, 11, 12, 13, 14, 15, 16, 17, 18, 19, 20, 21] (by decide +kernel) (by decide +kernel)
set_option maxRecDepth 20000 in
theorem gX4_massOfAnHour_X4_isGrade : GoodIn wsX4_massOfAnHour (wsV RX4 86 RX4 yX4_isGrade wsX4_isGrade) := goodIn_app (goodIn_of _ (by decide +kernel)) ggX4_massOfAnHour_X4_isGrade
theorem dX4_massOfAnHour_0 : decode cX4_massOfAnHour 0 = .ok (.aload_n 0, 1) := by decide +kernel
theorem dX4_massOfAnHour_1 : decode cX4_massOfAnHour 1 = .ok (.iload_n 1, 1) := by decide +kernel
theorem dX4_massOfAnHour_2 : decode cX4_massOfAnHour 2 = .ok (.invokevirtual 86, 3) := by decide +kernel
theorem dX4_massOfAnHour_5 : decode cX4_massOfAnHour 5 = .ok (.ifCond .eq 20, 3) := by decide +kernel
theorem dX4_massOfAnHour_8 : decode cX4_massOfAnHour 8 = .ok (.aload_n 0, 1) := by decide +kernel
theorem dX4_massOfAnHour_9 : decode cX4_massOfAnHour 9 = .ok (.getfield 9, 3) := by decide +kernel
theorem dX4_massOfAnHour_12 : decode cX4_massOfAnHour 12 = .ok (.iload_n 1, 1) := by decide +kernel
theorem dX4_massOfAnHour_13 : decode cX4_massOfAnHour 13 = .ok (.iaload, 1) := by decide +kernel
theorem dX4_massOfAnHour_14 : decode cX4_massOfAnHour 14 = .ok (.aload_n 0, 1) := by decide +kernel
theorem dX4_massOfAnHour_15 : decode cX4_massOfAnHour 15 = .ok (.getfield 13, 3) := by decide +kernel
theorem dX4_massOfAnHour_18 : decode cX4_massOfAnHour 18 = .ok (.imul, 1) := by decide +kernel
theorem dX4_massOfAnHour_19 : decode cX4_massOfAnHour 19 = .ok (.bipush 10, 2) := by decide +kernel
theorem dX4_massOfAnHour_21 : decode cX4_massOfAnHour 21 = .ok (.idiv, 1) := by decide +kernel
theorem dX4_massOfAnHour_22 : decode cX4_massOfAnHour 22 = .ok (.goto 4, 3) := by decide +kernel
theorem dX4_massOfAnHour_25 : decode cX4_massOfAnHour 25 = .ok (.iconst 0, 1) := by decide +kernel
theorem dX4_massOfAnHour_26 : decode cX4_massOfAnHour 26 = .ok (.ireturn, 1) := by decide +kernel
set_option maxRecDepth 20000 in
theorem ggX4_nearestWaiting_X3_rollsLacking : GoodIn wsX4_nearestWaiting wsX3_rollsLacking := goodIn_r _ [8, 9, 10, 11, 25, 26, 27, 28, 29] (by decide +kernel) (by decide +kernel)
set_option maxRecDepth 20000 in
theorem gX4_nearestWaiting_X3_rollsLacking : GoodIn wsX4_nearestWaiting (wsV RX4 174 RX3 yX3_rollsLacking wsX3_rollsLacking) := goodIn_app (goodIn_of _ (by decide +kernel)) ggX4_nearestWaiting_X3_rollsLacking
theorem dX4_nearestWaiting_0 : decode cX4_nearestWaiting 0 = .ok (.iconst (-1), 1) := by decide +kernel
theorem dX4_nearestWaiting_1 : decode cX4_nearestWaiting 1 = .ok (.istore_n 3, 1) := by decide +kernel
theorem dX4_nearestWaiting_2 : decode cX4_nearestWaiting 2 = .ok (.iconst 0, 1) := by decide +kernel
theorem dX4_nearestWaiting_3 : decode cX4_nearestWaiting 3 = .ok (.istore 4, 2) := by decide +kernel
theorem dX4_nearestWaiting_5 : decode cX4_nearestWaiting 5 = .ok (.iconst 0, 1) := by decide +kernel
theorem dX4_nearestWaiting_6 : decode cX4_nearestWaiting 6 = .ok (.istore 5, 2) := by decide +kernel
theorem dX4_nearestWaiting_8 : decode cX4_nearestWaiting 8 = .ok (.iload 5, 2) := by decide +kernel
theorem dX4_nearestWaiting_10 : decode cX4_nearestWaiting 10 = .ok (.aload_n 0, 1) := by decide +kernel
theorem dX4_nearestWaiting_11 : decode cX4_nearestWaiting 11 = .ok (.getfield 70, 3) := by decide +kernel
theorem dX4_nearestWaiting_14 : decode cX4_nearestWaiting 14 = .ok (.if_icmp .ge 84, 3) := by decide +kernel
theorem dX4_nearestWaiting_17 : decode cX4_nearestWaiting 17 = .ok (.iload_n 2, 1) := by decide +kernel
theorem dX4_nearestWaiting_18 : decode cX4_nearestWaiting 18 = .ok (.ifCond .eq 15, 3) := by decide +kernel
theorem dX4_nearestWaiting_21 : decode cX4_nearestWaiting 21 = .ok (.aload_n 0, 1) := by decide +kernel
theorem dX4_nearestWaiting_22 : decode cX4_nearestWaiting 22 = .ok (.getfield 9, 3) := by decide +kernel
theorem dX4_nearestWaiting_25 : decode cX4_nearestWaiting 25 = .ok (.iload 5, 2) := by decide +kernel
theorem dX4_nearestWaiting_27 : decode cX4_nearestWaiting 27 = .ok (.iaload, 1) := by decide +kernel
theorem dX4_nearestWaiting_28 : decode cX4_nearestWaiting 28 = .ok (.iload_n 1, 1) := by decide +kernel
theorem dX4_nearestWaiting_29 : decode cX4_nearestWaiting 29 = .ok (.isub, 1) := by decide +kernel
theorem dX4_nearestWaiting_30 : decode cX4_nearestWaiting 30 = .ok (.goto 12, 3) := by decide +kernel
theorem dX4_nearestWaiting_33 : decode cX4_nearestWaiting 33 = .ok (.iload_n 1, 1) := by decide +kernel
theorem dX4_nearestWaiting_34 : decode cX4_nearestWaiting 34 = .ok (.aload_n 0, 1) := by decide +kernel
theorem dX4_nearestWaiting_35 : decode cX4_nearestWaiting 35 = .ok (.getfield 9, 3) := by decide +kernel
theorem dX4_nearestWaiting_38 : decode cX4_nearestWaiting 38 = .ok (.iload 5, 2) := by decide +kernel
theorem dX4_nearestWaiting_40 : decode cX4_nearestWaiting 40 = .ok (.iaload, 1) := by decide +kernel
theorem dX4_nearestWaiting_41 : decode cX4_nearestWaiting 41 = .ok (.isub, 1) := by decide +kernel
theorem dX4_nearestWaiting_42 : decode cX4_nearestWaiting 42 = .ok (.istore 6, 2) := by decide +kernel
theorem dX4_nearestWaiting_44 : decode cX4_nearestWaiting 44 = .ok (.iload 6, 2) := by decide +kernel
theorem dX4_nearestWaiting_46 : decode cX4_nearestWaiting 46 = .ok (.ifCond .le 19, 3) := by decide +kernel
theorem dX4_nearestWaiting_49 : decode cX4_nearestWaiting 49 = .ok (.iload_n 3, 1) := by decide +kernel
theorem dX4_nearestWaiting_50 : decode cX4_nearestWaiting 50 = .ok (.iconst (-1), 1) := by decide +kernel
theorem dX4_nearestWaiting_51 : decode cX4_nearestWaiting 51 = .ok (.if_icmp .eq 10, 3) := by decide +kernel
theorem dX4_nearestWaiting_54 : decode cX4_nearestWaiting 54 = .ok (.iload 6, 2) := by decide +kernel
theorem dX4_nearestWaiting_56 : decode cX4_nearestWaiting 56 = .ok (.iload 4, 2) := by decide +kernel
theorem dX4_nearestWaiting_58 : decode cX4_nearestWaiting 58 = .ok (.if_icmp .ge 7, 3) := by decide +kernel
theorem dX4_nearestWaiting_61 : decode cX4_nearestWaiting 61 = .ok (.iconst 1, 1) := by decide +kernel
theorem dX4_nearestWaiting_62 : decode cX4_nearestWaiting 62 = .ok (.goto 4, 3) := by decide +kernel
theorem dX4_nearestWaiting_65 : decode cX4_nearestWaiting 65 = .ok (.iconst 0, 1) := by decide +kernel
theorem dX4_nearestWaiting_66 : decode cX4_nearestWaiting 66 = .ok (.istore 7, 2) := by decide +kernel
theorem dX4_nearestWaiting_68 : decode cX4_nearestWaiting 68 = .ok (.iload 7, 2) := by decide +kernel
theorem dX4_nearestWaiting_70 : decode cX4_nearestWaiting 70 = .ok (.ifCond .eq 22, 3) := by decide +kernel
theorem dX4_nearestWaiting_73 : decode cX4_nearestWaiting 73 = .ok (.aload_n 0, 1) := by decide +kernel
theorem dX4_nearestWaiting_74 : decode cX4_nearestWaiting 74 = .ok (.getfield 27, 3) := by decide +kernel
theorem dX4_nearestWaiting_77 : decode cX4_nearestWaiting 77 = .ok (.iload 5, 2) := by decide +kernel
theorem dX4_nearestWaiting_79 : decode cX4_nearestWaiting 79 = .ok (.invokevirtual 174, 3) := by decide +kernel
theorem dX4_nearestWaiting_82 : decode cX4_nearestWaiting 82 = .ok (.ifCond .le 10, 3) := by decide +kernel
theorem dX4_nearestWaiting_85 : decode cX4_nearestWaiting 85 = .ok (.iload 5, 2) := by decide +kernel
theorem dX4_nearestWaiting_87 : decode cX4_nearestWaiting 87 = .ok (.istore_n 3, 1) := by decide +kernel
theorem dX4_nearestWaiting_88 : decode cX4_nearestWaiting 88 = .ok (.iload 6, 2) := by decide +kernel
theorem dX4_nearestWaiting_90 : decode cX4_nearestWaiting 90 = .ok (.istore 4, 2) := by decide +kernel
theorem dX4_nearestWaiting_92 : decode cX4_nearestWaiting 92 = .ok (.iinc 5 1, 3) := by decide +kernel
theorem dX4_nearestWaiting_95 : decode cX4_nearestWaiting 95 = .ok (.goto (-87), 3) := by decide +kernel
theorem dX4_nearestWaiting_98 : decode cX4_nearestWaiting 98 = .ok (.iload_n 3, 1) := by decide +kernel
theorem dX4_nearestWaiting_99 : decode cX4_nearestWaiting 99 = .ok (.ireturn, 1) := by decide +kernel
set_option maxRecDepth 20000 in
theorem ggX4_passAnHour_X4_isGrade : GoodIn wsX4_passAnHour wsX4_isGrade := goodIn_r _ [12, 13, 118, 119, 120, 121, 122, 123, 124, 125, 126, 127, 128, 129, 130] (by decide +kernel) (by decide +kernel)
set_option maxRecDepth 20000 in
theorem gX4_passAnHour_X4_isGrade : GoodIn wsX4_passAnHour (wsV RX4 86 RX4 yX4_isGrade wsX4_isGrade) := goodIn_app (goodIn_of _ (by decide +kernel)) ggX4_passAnHour_X4_isGrade
set_option maxRecDepth 20000 in
theorem ggX4_passAnHour_X2_writeNothing : GoodIn wsX4_passAnHour wsX2_writeNothing := goodIn_r _ [18, 19, 20, 21, 17, 22, 23, 24, 25, 26, 27, 28, 29, 30, 139, 140, 141, 142, 143, 144, 145, 146, 147, 148, 149] (by decide +kernel) (by decide +kernel)
set_option maxRecDepth 20000 in
theorem gX4_passAnHour_X2_writeNothing : GoodIn wsX4_passAnHour (wsV RX4 245 RX2 yX2_writeNothing wsX2_writeNothing) := goodIn_app (goodIn_of _ (by decide +kernel)) ggX4_passAnHour_X2_writeNothing
set_option maxRecDepth 20000 in
theorem ggX4_passAnHour_X4_massOfAnHour : GoodIn wsX4_passAnHour wsX4_massOfAnHour := goodIn_r _ [34, 35, 6, 8, 9, 10, 11, 12, 13, 118, 119, 120, 121, 122, 123, 124, 125, 126, 127, 128, 129, 130] (by decide +kernel) (by decide +kernel)
set_option maxRecDepth 20000 in
theorem gX4_passAnHour_X4_massOfAnHour : GoodIn wsX4_passAnHour (wsV RX4 118 RX4 yX4_massOfAnHour wsX4_massOfAnHour) := goodIn_app (goodIn_of _ (by decide +kernel)) ggX4_passAnHour_X4_massOfAnHour
set_option maxRecDepth 20000 in
theorem ggX4_passAnHour_X4_make : GoodIn wsX4_passAnHour wsX4_make := goodIn_r _ [39, 40, 41, 42, 43, 44, 45, 2, 46, 47, 48, 49, 20, 21, 17, 22, 23, 24, 25, 26, 27, 28, 29, 30, 50, 51, 52, 53, 54, 55, 56, 57, 58, 118, 119, 120, 121, 122, 123, 124, 125, 126, 127, 128, 129, 130, 139, 140, 141, 142, 143, 144, 145, 146, 147, 148, 149, 150, 151, 152] (by decide +kernel) (by decide +kernel)
set_option maxRecDepth 20000 in
theorem gX4_passAnHour_X4_make : GoodIn wsX4_passAnHour (wsV RX4 248 RX4 yX4_make wsX4_make) := goodIn_app (goodIn_of _ (by decide +kernel)) ggX4_passAnHour_X4_make
set_option maxRecDepth 20000 in
theorem ggX4_passAnHour_X1_load : GoodIn wsX4_passAnHour wsX1_load := goodIn_r _ [63, 64, 43, 44, 45, 65, 66, 67, 68, 69, 70, 71, 72, 73, 74, 75, 76, 77, 78, 79, 80, 131, 132, 133, 134, 135, 136, 137, 138, 153, 154, 155, 156, 157] (by decide +kernel) (by decide +kernel)
set_option maxRecDepth 20000 in
theorem gX4_passAnHour_X1_load : GoodIn wsX4_passAnHour (wsV RX4 151 RX1 yX1_load wsX1_load) := goodIn_app (goodIn_of _ (by decide +kernel)) ggX4_passAnHour_X1_load
set_option maxRecDepth 20000 in
theorem ggX4_passAnHour_X1_sumBySearch : GoodIn wsX4_passAnHour wsX1_sumBySearch := goodIn_r _ [84, 85, 86, 87, 88, 89, 90, 91, 92, 62, 93, 74, 68, 64, 43, 44, 45, 72, 70, 94, 95, 96, 97, 98, 99, 100, 101, 102, 131, 132, 133, 134, 135, 136, 137, 138] (by decide +kernel) (by decide +kernel)
set_option maxRecDepth 20000 in
theorem gX4_passAnHour_X1_sumBySearch : GoodIn wsX4_passAnHour (wsV RX4 155 RX1 yX1_sumBySearch wsX1_sumBySearch) := goodIn_app (goodIn_of _ (by decide +kernel)) ggX4_passAnHour_X1_sumBySearch
set_option maxRecDepth 20000 in
theorem ggX4_passAnHour_X4_quotient : GoodIn wsX4_passAnHour wsX4_quotient := goodIn_r _ [105] (by decide +kernel) (by decide +kernel)
set_option maxRecDepth 20000 in
theorem gX4_passAnHour_X4_quotient : GoodIn wsX4_passAnHour (va_wsS RX4 252 yX4_quotient wsX4_quotient) := goodIn_app (goodIn_of _ (by decide +kernel)) ggX4_passAnHour_X4_quotient
set_option maxRecDepth 20000 in
theorem ggX4_passAnHour_X2_writeTrim : GoodIn wsX4_passAnHour wsX2_writeTrim := goodIn_r _ [109, 110, 111, 139, 140, 141, 142, 143, 144, 145, 146, 147, 148, 149] (by decide +kernel) (by decide +kernel)
set_option maxRecDepth 20000 in
theorem gX4_passAnHour_X2_writeTrim : GoodIn wsX4_passAnHour (wsV RX4 255 RX2 yX2_writeTrim wsX2_writeTrim) := goodIn_app (goodIn_of _ (by decide +kernel)) ggX4_passAnHour_X2_writeTrim
set_option maxRecDepth 20000 in
theorem ggX4_passAnHour_X3_takeOff : GoodIn wsX4_passAnHour wsX3_takeOff := goodIn_r _ [115, 80, 116, 117, 153, 154, 155, 156, 157] (by decide +kernel) (by decide +kernel)
set_option maxRecDepth 20000 in
theorem gX4_passAnHour_X3_takeOff : GoodIn wsX4_passAnHour (wsV RX4 259 RX3 yX3_takeOff wsX3_takeOff) := goodIn_app (goodIn_of _ (by decide +kernel)) ggX4_passAnHour_X3_takeOff
theorem dX4_passAnHour_0 : decode cX4_passAnHour 0 = .ok (.aload_n 0, 1) := by decide +kernel
theorem dX4_passAnHour_1 : decode cX4_passAnHour 1 = .ok (.aload_n 0, 1) := by decide +kernel
theorem dX4_passAnHour_2 : decode cX4_passAnHour 2 = .ok (.getfield 17, 3) := by decide +kernel
theorem dX4_passAnHour_5 : decode cX4_passAnHour 5 = .ok (.invokevirtual 86, 3) := by decide +kernel
theorem dX4_passAnHour_8 : decode cX4_passAnHour 8 = .ok (.ifCond .ne 12, 3) := by decide +kernel
theorem dX4_passAnHour_11 : decode cX4_passAnHour 11 = .ok (.aload_n 0, 1) := by decide +kernel
theorem dX4_passAnHour_12 : decode cX4_passAnHour 12 = .ok (.getfield 48, 3) := by decide +kernel
theorem dX4_passAnHour_15 : decode cX4_passAnHour 15 = .ok (.invokevirtual 245, 3) := by decide +kernel
theorem dX4_passAnHour_18 : decode cX4_passAnHour 18 = .ok (.iconst 0, 1) := by decide +kernel
theorem dX4_passAnHour_19 : decode cX4_passAnHour 19 = .ok (.ireturn, 1) := by decide +kernel
theorem dX4_passAnHour_20 : decode cX4_passAnHour 20 = .ok (.aload_n 0, 1) := by decide +kernel
theorem dX4_passAnHour_21 : decode cX4_passAnHour 21 = .ok (.aload_n 0, 1) := by decide +kernel
theorem dX4_passAnHour_22 : decode cX4_passAnHour 22 = .ok (.getfield 17, 3) := by decide +kernel
theorem dX4_passAnHour_25 : decode cX4_passAnHour 25 = .ok (.invokevirtual 118, 3) := by decide +kernel
theorem dX4_passAnHour_28 : decode cX4_passAnHour 28 = .ok (.istore_n 1, 1) := by decide +kernel
theorem dX4_passAnHour_29 : decode cX4_passAnHour 29 = .ok (.aload_n 0, 1) := by decide +kernel
theorem dX4_passAnHour_30 : decode cX4_passAnHour 30 = .ok (.getfield 96, 3) := by decide +kernel
theorem dX4_passAnHour_33 : decode cX4_passAnHour 33 = .ok (.ifCond .le 23, 3) := by decide +kernel
theorem dX4_passAnHour_36 : decode cX4_passAnHour 36 = .ok (.aload_n 0, 1) := by decide +kernel
theorem dX4_passAnHour_37 : decode cX4_passAnHour 37 = .ok (.bipush 99, 2) := by decide +kernel
theorem dX4_passAnHour_39 : decode cX4_passAnHour 39 = .ok (.iload_n 1, 1) := by decide +kernel
theorem dX4_passAnHour_40 : decode cX4_passAnHour 40 = .ok (.iload_n 1, 1) := by decide +kernel
theorem dX4_passAnHour_41 : decode cX4_passAnHour 41 = .ok (.invokevirtual 248, 3) := by decide +kernel
theorem dX4_passAnHour_44 : decode cX4_passAnHour 44 = .ok (.aload_n 0, 1) := by decide +kernel
theorem dX4_passAnHour_45 : decode cX4_passAnHour 45 = .ok (.dup, 1) := by decide +kernel
theorem dX4_passAnHour_46 : decode cX4_passAnHour 46 = .ok (.getfield 96, 3) := by decide +kernel
theorem dX4_passAnHour_49 : decode cX4_passAnHour 49 = .ok (.iconst 1, 1) := by decide +kernel
theorem dX4_passAnHour_50 : decode cX4_passAnHour 50 = .ok (.isub, 1) := by decide +kernel
theorem dX4_passAnHour_51 : decode cX4_passAnHour 51 = .ok (.putfield 96, 3) := by decide +kernel
theorem dX4_passAnHour_54 : decode cX4_passAnHour 54 = .ok (.iconst 0, 1) := by decide +kernel
theorem dX4_passAnHour_55 : decode cX4_passAnHour 55 = .ok (.ireturn, 1) := by decide +kernel
theorem dX4_passAnHour_56 : decode cX4_passAnHour 56 = .ok (.aload_n 0, 1) := by decide +kernel
theorem dX4_passAnHour_57 : decode cX4_passAnHour 57 = .ok (.getfield 34, 3) := by decide +kernel
theorem dX4_passAnHour_60 : decode cX4_passAnHour 60 = .ok (.aload_n 0, 1) := by decide +kernel
theorem dX4_passAnHour_61 : decode cX4_passAnHour 61 = .ok (.getfield 27, 3) := by decide +kernel
theorem dX4_passAnHour_64 : decode cX4_passAnHour 64 = .ok (.aload_n 0, 1) := by decide +kernel
theorem dX4_passAnHour_65 : decode cX4_passAnHour 65 = .ok (.getfield 17, 3) := by decide +kernel
theorem dX4_passAnHour_68 : decode cX4_passAnHour 68 = .ok (.aload_n 0, 1) := by decide +kernel
theorem dX4_passAnHour_69 : decode cX4_passAnHour 69 = .ok (.getfield 13, 3) := by decide +kernel
theorem dX4_passAnHour_72 : decode cX4_passAnHour 72 = .ok (.invokevirtual 151, 3) := by decide +kernel
theorem dX4_passAnHour_75 : decode cX4_passAnHour 75 = .ok (.aload_n 0, 1) := by decide +kernel
theorem dX4_passAnHour_76 : decode cX4_passAnHour 76 = .ok (.getfield 34, 3) := by decide +kernel
theorem dX4_passAnHour_79 : decode cX4_passAnHour 79 = .ok (.invokevirtual 155, 3) := by decide +kernel
theorem dX4_passAnHour_82 : decode cX4_passAnHour 82 = .ok (.istore_n 2, 1) := by decide +kernel
theorem dX4_passAnHour_83 : decode cX4_passAnHour 83 = .ok (.iload_n 2, 1) := by decide +kernel
theorem dX4_passAnHour_84 : decode cX4_passAnHour 84 = .ok (.ifCond .gt 12, 3) := by decide +kernel
theorem dX4_passAnHour_87 : decode cX4_passAnHour 87 = .ok (.aload_n 0, 1) := by decide +kernel
theorem dX4_passAnHour_88 : decode cX4_passAnHour 88 = .ok (.getfield 48, 3) := by decide +kernel
theorem dX4_passAnHour_91 : decode cX4_passAnHour 91 = .ok (.invokevirtual 245, 3) := by decide +kernel
theorem dX4_passAnHour_94 : decode cX4_passAnHour 94 = .ok (.iconst 0, 1) := by decide +kernel
theorem dX4_passAnHour_95 : decode cX4_passAnHour 95 = .ok (.ireturn, 1) := by decide +kernel
theorem dX4_passAnHour_96 : decode cX4_passAnHour 96 = .ok (.aload_n 0, 1) := by decide +kernel
theorem dX4_passAnHour_97 : decode cX4_passAnHour 97 = .ok (.getfield 13, 3) := by decide +kernel
theorem dX4_passAnHour_100 : decode cX4_passAnHour 100 = .ok (.iload_n 2, 1) := by decide +kernel
theorem dX4_passAnHour_101 : decode cX4_passAnHour 101 = .ok (.isub, 1) := by decide +kernel
theorem dX4_passAnHour_102 : decode cX4_passAnHour 102 = .ok (.istore_n 3, 1) := by decide +kernel
theorem dX4_passAnHour_103 : decode cX4_passAnHour 103 = .ok (.aload_n 0, 1) := by decide +kernel
theorem dX4_passAnHour_104 : decode cX4_passAnHour 104 = .ok (.bipush 112, 2) := by decide +kernel
theorem dX4_passAnHour_106 : decode cX4_passAnHour 106 = .ok (.iload_n 1, 1) := by decide +kernel
theorem dX4_passAnHour_107 : decode cX4_passAnHour 107 = .ok (.iload_n 1, 1) := by decide +kernel
theorem dX4_passAnHour_108 : decode cX4_passAnHour 108 = .ok (.iload_n 3, 1) := by decide +kernel
theorem dX4_passAnHour_109 : decode cX4_passAnHour 109 = .ok (.imul, 1) := by decide +kernel
theorem dX4_passAnHour_110 : decode cX4_passAnHour 110 = .ok (.aload_n 0, 1) := by decide +kernel
theorem dX4_passAnHour_111 : decode cX4_passAnHour 111 = .ok (.getfield 13, 3) := by decide +kernel
theorem dX4_passAnHour_114 : decode cX4_passAnHour 114 = .ok (.invokestatic 252, 3) := by decide +kernel
theorem dX4_passAnHour_117 : decode cX4_passAnHour 117 = .ok (.invokevirtual 248, 3) := by decide +kernel
theorem dX4_passAnHour_120 : decode cX4_passAnHour 120 = .ok (.aload_n 0, 1) := by decide +kernel
