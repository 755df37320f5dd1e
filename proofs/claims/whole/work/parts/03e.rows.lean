theorem dX5_pass_46 : decode cX5_pass 46 = .ok (.if_icmp .ge 16, 3) := by decide +kernel
theorem dX5_pass_49 : decode cX5_pass 49 = .ok (.iload_n 2, 1) := by decide +kernel
theorem dX5_pass_50 : decode cX5_pass 50 = .ok (.aload_n 0, 1) := by decide +kernel
theorem dX5_pass_51 : decode cX5_pass 51 = .ok (.invokevirtual 147, 3) := by decide +kernel
theorem dX5_pass_54 : decode cX5_pass 54 = .ok (.iadd, 1) := by decide +kernel
theorem dX5_pass_55 : decode cX5_pass 55 = .ok (.istore_n 2, 1) := by decide +kernel
theorem dX5_pass_56 : decode cX5_pass 56 = .ok (.iinc 3 1, 3) := by decide +kernel
theorem dX5_pass_59 : decode cX5_pass 59 = .ok (.goto (-15), 3) := by decide +kernel
theorem dX5_pass_62 : decode cX5_pass 62 = .ok (.iload_n 2, 1) := by decide +kernel
theorem dX5_pass_63 : decode cX5_pass 63 = .ok (.ireturn, 1) := by decide +kernel
theorem dX5_hours_0 : decode cX5_hours 0 = .ok (.aload_n 0, 1) := by decide +kernel
theorem dX5_hours_1 : decode cX5_hours 1 = .ok (.iconst 0, 1) := by decide +kernel
theorem dX5_hours_2 : decode cX5_hours 2 = .ok (.putfield 58, 3) := by decide +kernel
theorem dX5_hours_5 : decode cX5_hours 5 = .ok (.aload_n 0, 1) := by decide +kernel
theorem dX5_hours_6 : decode cX5_hours 6 = .ok (.getfield 130, 3) := by decide +kernel
theorem dX5_hours_9 : decode cX5_hours 9 = .ok (.ireturn, 1) := by decide +kernel
theorem dX5_broke_0 : decode cX5_broke 0 = .ok (.aload_n 0, 1) := by decide +kernel
theorem dX5_broke_1 : decode cX5_broke 1 = .ok (.iconst 0, 1) := by decide +kernel
theorem dX5_broke_2 : decode cX5_broke 2 = .ok (.putfield 58, 3) := by decide +kernel
theorem dX5_broke_5 : decode cX5_broke 5 = .ok (.aload_n 0, 1) := by decide +kernel
theorem dX5_broke_6 : decode cX5_broke 6 = .ok (.getfield 111, 3) := by decide +kernel
theorem dX5_broke_9 : decode cX5_broke 9 = .ok (.ireturn, 1) := by decide +kernel
theorem dX5_brokeByHours_0 : decode cX5_brokeByHours 0 = .ok (.aload_n 0, 1) := by decide +kernel
theorem dX5_brokeByHours_1 : decode cX5_brokeByHours 1 = .ok (.iconst 0, 1) := by decide +kernel
theorem dX5_brokeByHours_2 : decode cX5_brokeByHours 2 = .ok (.putfield 58, 3) := by decide +kernel
theorem dX5_brokeByHours_5 : decode cX5_brokeByHours 5 = .ok (.aload_n 0, 1) := by decide +kernel
theorem dX5_brokeByHours_6 : decode cX5_brokeByHours 6 = .ok (.getfield 111, 3) := by decide +kernel
theorem dX5_brokeByHours_9 : decode cX5_brokeByHours 9 = .ok (.ireturn, 1) := by decide +kernel
theorem dX5_fresh_0 : decode cX5_fresh 0 = .ok (.aload_n 0, 1) := by decide +kernel
theorem dX5_fresh_1 : decode cX5_fresh 1 = .ok (.iconst 0, 1) := by decide +kernel
theorem dX5_fresh_2 : decode cX5_fresh 2 = .ok (.putfield 58, 3) := by decide +kernel
theorem dX5_fresh_5 : decode cX5_fresh 5 = .ok (.aload_n 0, 1) := by decide +kernel
theorem dX5_fresh_6 : decode cX5_fresh 6 = .ok (.getfield 114, 3) := by decide +kernel
theorem dX5_fresh_9 : decode cX5_fresh 9 = .ok (.lreturn, 1) := by decide +kernel
theorem dX5_paper_0 : decode cX5_paper 0 = .ok (.aload_n 0, 1) := by decide +kernel
theorem dX5_paper_1 : decode cX5_paper 1 = .ok (.iconst 0, 1) := by decide +kernel
theorem dX5_paper_2 : decode cX5_paper 2 = .ok (.putfield 58, 3) := by decide +kernel
theorem dX5_paper_5 : decode cX5_paper 5 = .ok (.aload_n 0, 1) := by decide +kernel
theorem dX5_paper_6 : decode cX5_paper 6 = .ok (.getfield 118, 3) := by decide +kernel
theorem dX5_paper_9 : decode cX5_paper 9 = .ok (.lreturn, 1) := by decide +kernel
theorem dX5_lost_0 : decode cX5_lost 0 = .ok (.aload_n 0, 1) := by decide +kernel
theorem dX5_lost_1 : decode cX5_lost 1 = .ok (.iconst 0, 1) := by decide +kernel
theorem dX5_lost_2 : decode cX5_lost 2 = .ok (.putfield 58, 3) := by decide +kernel
theorem dX5_lost_5 : decode cX5_lost 5 = .ok (.aload_n 0, 1) := by decide +kernel
theorem dX5_lost_6 : decode cX5_lost 6 = .ok (.getfield 121, 3) := by decide +kernel
theorem dX5_lost_9 : decode cX5_lost 9 = .ok (.lreturn, 1) := by decide +kernel
set_option maxRecDepth 20000 in
theorem ggX5_made_X5_in : GoodIn wsX5_made wsX5_in := goodIn_r _ [6] (by decide +kernel) (by decide +kernel)
set_option maxRecDepth 20000 in
theorem gX5_made_X5_in : GoodIn wsX5_made (va_wsS RX5 64 yX5_in wsX5_in) := goodIn_app (goodIn_of _ (by decide +kernel)) ggX5_made_X5_in
set_option maxRecDepth 20000 in
theorem ggX5_made_X5_goesOn : GoodIn wsX5_made wsX5_goesOn := goodIn_r _ [10, 11, 12, 13, 14, 15, 16, 17, 18, 19, 20, 21, 22, 23, 24, 25, 26, 27, 28, 29, 30, 31, 32, 33, 34, 35, 36, 37, 38, 39, 40] (by decide +kernel) (by decide +kernel)
set_option maxRecDepth 20000 in
theorem gX5_made_X5_goesOn : GoodIn wsX5_made (wsV RX5 75 RX5 yX5_goesOn wsX5_goesOn) := goodIn_app (goodIn_of _ (by decide +kernel)) ggX5_made_X5_goesOn
theorem dX5_made_0 : decode cX5_made 0 = .ok (.aload_n 0, 1) := by decide +kernel
theorem dX5_made_1 : decode cX5_made 1 = .ok (.iload_n 1, 1) := by decide +kernel
theorem dX5_made_2 : decode cX5_made 2 = .ok (.iconst 0, 1) := by decide +kernel
theorem dX5_made_3 : decode cX5_made 3 = .ok (.aload_n 0, 1) := by decide +kernel
theorem dX5_made_4 : decode cX5_made 4 = .ok (.getfield 130, 3) := by decide +kernel
theorem dX5_made_7 : decode cX5_made 7 = .ok (.iconst 1, 1) := by decide +kernel
theorem dX5_made_8 : decode cX5_made 8 = .ok (.isub, 1) := by decide +kernel
theorem dX5_made_9 : decode cX5_made 9 = .ok (.invokestatic 64, 3) := by decide +kernel
theorem dX5_made_12 : decode cX5_made 12 = .ok (.ifCond .eq 7, 3) := by decide +kernel
theorem dX5_made_15 : decode cX5_made 15 = .ok (.iconst 0, 1) := by decide +kernel
theorem dX5_made_16 : decode cX5_made 16 = .ok (.goto 4, 3) := by decide +kernel
theorem dX5_made_19 : decode cX5_made 19 = .ok (.iconst 1, 1) := by decide +kernel
theorem dX5_made_20 : decode cX5_made 20 = .ok (.invokevirtual 75, 3) := by decide +kernel
theorem dX5_made_23 : decode cX5_made 23 = .ok (.ifCond .eq 12, 3) := by decide +kernel
theorem dX5_made_26 : decode cX5_made 26 = .ok (.aload_n 0, 1) := by decide +kernel
theorem dX5_made_27 : decode cX5_made 27 = .ok (.getfield 48, 3) := by decide +kernel
theorem dX5_made_30 : decode cX5_made 30 = .ok (.iload_n 1, 1) := by decide +kernel
theorem dX5_made_31 : decode cX5_made 31 = .ok (.caload, 1) := by decide +kernel
theorem dX5_made_32 : decode cX5_made 32 = .ok (.goto 4, 3) := by decide +kernel
theorem dX5_made_35 : decode cX5_made 35 = .ok (.iconst 0, 1) := by decide +kernel
theorem dX5_made_36 : decode cX5_made 36 = .ok (.ireturn, 1) := by decide +kernel
theorem dX5_steamCost_0 : decode cX5_steamCost 0 = .ok (.aload_n 0, 1) := by decide +kernel
theorem dX5_steamCost_1 : decode cX5_steamCost 1 = .ok (.iconst 0, 1) := by decide +kernel
theorem dX5_steamCost_2 : decode cX5_steamCost 2 = .ok (.putfield 58, 3) := by decide +kernel
theorem dX5_steamCost_5 : decode cX5_steamCost 5 = .ok (.aload_n 0, 1) := by decide +kernel
theorem dX5_steamCost_6 : decode cX5_steamCost 6 = .ok (.getfield 127, 3) := by decide +kernel
theorem dX5_steamCost_9 : decode cX5_steamCost 9 = .ok (.lreturn, 1) := by decide +kernel
set_option maxRecDepth 20000 in
theorem ggX5_paperShare_X5_goesOn : GoodIn wsX5_paperShare wsX5_goesOn := goodIn_r _ [7, 8, 9, 10, 11, 12, 13, 14, 15, 16, 17, 18, 19, 20, 21, 22, 23, 24, 25, 26, 27, 28, 29, 30, 31, 32, 33, 34, 35, 36, 37] (by decide +kernel) (by decide +kernel)
set_option maxRecDepth 20000 in
theorem gX5_paperShare_X5_goesOn : GoodIn wsX5_paperShare (wsV RX5 75 RX5 yX5_goesOn wsX5_goesOn) := goodIn_app (goodIn_of _ (by decide +kernel)) ggX5_paperShare_X5_goesOn
theorem dX5_paperShare_0 : decode cX5_paperShare 0 = .ok (.aload_n 0, 1) := by decide +kernel
theorem dX5_paperShare_1 : decode cX5_paperShare 1 = .ok (.aload_n 0, 1) := by decide +kernel
theorem dX5_paperShare_2 : decode cX5_paperShare 2 = .ok (.getfield 124, 3) := by decide +kernel
theorem dX5_paperShare_5 : decode cX5_paperShare 5 = .ok (.lconst 0, 1) := by decide +kernel
theorem dX5_paperShare_6 : decode cX5_paperShare 6 = .ok (.lcmp, 1) := by decide +kernel
theorem dX5_paperShare_7 : decode cX5_paperShare 7 = .ok (.ifCond .ne 7, 3) := by decide +kernel
theorem dX5_paperShare_10 : decode cX5_paperShare 10 = .ok (.iconst 1, 1) := by decide +kernel
theorem dX5_paperShare_11 : decode cX5_paperShare 11 = .ok (.goto 4, 3) := by decide +kernel
theorem dX5_paperShare_14 : decode cX5_paperShare 14 = .ok (.iconst 0, 1) := by decide +kernel
theorem dX5_paperShare_15 : decode cX5_paperShare 15 = .ok (.invokevirtual 75, 3) := by decide +kernel
theorem dX5_paperShare_18 : decode cX5_paperShare 18 = .ok (.ifCond .eq 17, 3) := by decide +kernel
theorem dX5_paperShare_21 : decode cX5_paperShare 21 = .ok (.aload_n 0, 1) := by decide +kernel
theorem dX5_paperShare_22 : decode cX5_paperShare 22 = .ok (.getfield 118, 3) := by decide +kernel
theorem dX5_paperShare_25 : decode cX5_paperShare 25 = .ok (.l2f, 1) := by decide +kernel
theorem dX5_paperShare_26 : decode cX5_paperShare 26 = .ok (.aload_n 0, 1) := by decide +kernel
theorem dX5_paperShare_27 : decode cX5_paperShare 27 = .ok (.getfield 124, 3) := by decide +kernel
theorem dX5_paperShare_30 : decode cX5_paperShare 30 = .ok (.l2f, 1) := by decide +kernel
theorem dX5_paperShare_31 : decode cX5_paperShare 31 = .ok (.fdiv, 1) := by decide +kernel
theorem dX5_paperShare_32 : decode cX5_paperShare 32 = .ok (.goto 4, 3) := by decide +kernel
theorem dX5_paperShare_35 : decode cX5_paperShare 35 = .ok (.fconst 0, 1) := by decide +kernel
theorem dX5_paperShare_36 : decode cX5_paperShare 36 = .ok (.freturn, 1) := by decide +kernel
set_option maxRecDepth 20000 in
theorem ggX5_meanTrim_X5_goesOn : GoodIn wsX5_meanTrim wsX5_goesOn := goodIn_r _ [7, 8, 9, 10, 11, 12, 13, 14, 15, 16, 17, 18, 19, 20, 21, 22, 23, 24, 25, 26, 27, 28, 29, 30, 31, 32, 33, 34, 35, 36, 37] (by decide +kernel) (by decide +kernel)
set_option maxRecDepth 20000 in
theorem gX5_meanTrim_X5_goesOn : GoodIn wsX5_meanTrim (wsV RX5 75 RX5 yX5_goesOn wsX5_goesOn) := goodIn_app (goodIn_of _ (by decide +kernel)) ggX5_meanTrim_X5_goesOn
theorem dX5_meanTrim_0 : decode cX5_meanTrim 0 = .ok (.aload_n 0, 1) := by decide +kernel
theorem dX5_meanTrim_1 : decode cX5_meanTrim 1 = .ok (.aload_n 0, 1) := by decide +kernel
theorem dX5_meanTrim_2 : decode cX5_meanTrim 2 = .ok (.getfield 133, 3) := by decide +kernel
theorem dX5_meanTrim_5 : decode cX5_meanTrim 5 = .ok (.ifCond .ne 7, 3) := by decide +kernel
theorem dX5_meanTrim_8 : decode cX5_meanTrim 8 = .ok (.iconst 1, 1) := by decide +kernel
theorem dX5_meanTrim_9 : decode cX5_meanTrim 9 = .ok (.goto 4, 3) := by decide +kernel
theorem dX5_meanTrim_12 : decode cX5_meanTrim 12 = .ok (.iconst 0, 1) := by decide +kernel
theorem dX5_meanTrim_13 : decode cX5_meanTrim 13 = .ok (.invokevirtual 75, 3) := by decide +kernel
theorem dX5_meanTrim_16 : decode cX5_meanTrim 16 = .ok (.ifCond .eq 17, 3) := by decide +kernel
theorem dX5_meanTrim_19 : decode cX5_meanTrim 19 = .ok (.aload_n 0, 1) := by decide +kernel
theorem dX5_meanTrim_20 : decode cX5_meanTrim 20 = .ok (.getfield 136, 3) := by decide +kernel
theorem dX5_meanTrim_23 : decode cX5_meanTrim 23 = .ok (.i2d, 1) := by decide +kernel
theorem dX5_meanTrim_24 : decode cX5_meanTrim 24 = .ok (.aload_n 0, 1) := by decide +kernel
theorem dX5_meanTrim_25 : decode cX5_meanTrim 25 = .ok (.getfield 133, 3) := by decide +kernel
theorem dX5_meanTrim_28 : decode cX5_meanTrim 28 = .ok (.i2d, 1) := by decide +kernel
theorem dX5_meanTrim_29 : decode cX5_meanTrim 29 = .ok (.ddiv, 1) := by decide +kernel
theorem dX5_meanTrim_30 : decode cX5_meanTrim 30 = .ok (.goto 4, 3) := by decide +kernel
theorem dX5_meanTrim_33 : decode cX5_meanTrim 33 = .ok (.dconst 0, 1) := by decide +kernel
theorem dX5_meanTrim_34 : decode cX5_meanTrim 34 = .ok (.dreturn, 1) := by decide +kernel
theorem dJx00060_init_a7421_0 : decode cJx00060_init_a7421 0 = .ok (.aload_n 0, 1) := by decide +kernel
theorem dJx00060_init_a7421_1 : decode cJx00060_init_a7421 1 = .ok (.aload_n 1, 1) := by decide +kernel
theorem dJx00060_init_a7421_2 : decode cJx00060_init_a7421 2 = .ok (.invokespecial 7, 3) := by decide +kernel
theorem dJx00060_init_a7421_5 : decode cJx00060_init_a7421 5 = .ok (.return_, 1) := by decide +kernel
theorem dJ9_abs_0f7a4_0 : decode cJ9_abs_0f7a4 0 = .ok (.iload_n 0, 1) := by decide +kernel
theorem dJ9_abs_0f7a4_1 : decode cJ9_abs_0f7a4 1 = .ok (.ifCond .ge 8, 3) := by decide +kernel
theorem dJ9_abs_0f7a4_4 : decode cJ9_abs_0f7a4 4 = .ok (.iload_n 0, 1) := by decide +kernel
theorem dJ9_abs_0f7a4_5 : decode cJ9_abs_0f7a4 5 = .ok (.ineg, 1) := by decide +kernel
theorem dJ9_abs_0f7a4_6 : decode cJ9_abs_0f7a4 6 = .ok (.goto 4, 3) := by decide +kernel
theorem dJ9_abs_0f7a4_9 : decode cJ9_abs_0f7a4 9 = .ok (.iload_n 0, 1) := by decide +kernel
theorem dJ9_abs_0f7a4_10 : decode cJ9_abs_0f7a4 10 = .ok (.ireturn, 1) := by decide +kernel
theorem dJ9_max_7cf53_0 : decode cJ9_max_7cf53 0 = .ok (.iload_n 0, 1) := by decide +kernel
theorem dJ9_max_7cf53_1 : decode cJ9_max_7cf53 1 = .ok (.iload_n 1, 1) := by decide +kernel
theorem dJ9_max_7cf53_2 : decode cJ9_max_7cf53 2 = .ok (.if_icmp .lt 7, 3) := by decide +kernel
theorem dJ9_max_7cf53_5 : decode cJ9_max_7cf53 5 = .ok (.iload_n 0, 1) := by decide +kernel
theorem dJ9_max_7cf53_6 : decode cJ9_max_7cf53 6 = .ok (.goto 4, 3) := by decide +kernel
theorem dJ9_max_7cf53_9 : decode cJ9_max_7cf53 9 = .ok (.iload_n 1, 1) := by decide +kernel
theorem dJ9_max_7cf53_10 : decode cJ9_max_7cf53 10 = .ok (.ireturn, 1) := by decide +kernel
theorem dJ9_min_7cf53_0 : decode cJ9_min_7cf53 0 = .ok (.iload_n 0, 1) := by decide +kernel
theorem dJ9_min_7cf53_1 : decode cJ9_min_7cf53 1 = .ok (.iload_n 1, 1) := by decide +kernel
theorem dJ9_min_7cf53_2 : decode cJ9_min_7cf53 2 = .ok (.if_icmp .gt 7, 3) := by decide +kernel
theorem dJ9_min_7cf53_5 : decode cJ9_min_7cf53 5 = .ok (.iload_n 0, 1) := by decide +kernel
theorem dJ9_min_7cf53_6 : decode cJ9_min_7cf53 6 = .ok (.goto 4, 3) := by decide +kernel
theorem dJ9_min_7cf53_9 : decode cJ9_min_7cf53 9 = .ok (.iload_n 1, 1) := by decide +kernel
theorem dJ9_min_7cf53_10 : decode cJ9_min_7cf53 10 = .ok (.ireturn, 1) := by decide +kernel
theorem dJ7_fill_53178_0 : decode cJ7_fill_53178 0 = .ok (.iconst 0, 1) := by decide +kernel
theorem dJ7_fill_53178_1 : decode cJ7_fill_53178 1 = .ok (.istore_n 2, 1) := by decide +kernel
theorem dJ7_fill_53178_2 : decode cJ7_fill_53178 2 = .ok (.aload_n 0, 1) := by decide +kernel
theorem dJ7_fill_53178_3 : decode cJ7_fill_53178 3 = .ok (.arraylength, 1) := by decide +kernel
theorem dJ7_fill_53178_4 : decode cJ7_fill_53178 4 = .ok (.istore_n 3, 1) := by decide +kernel
theorem dJ7_fill_53178_5 : decode cJ7_fill_53178 5 = .ok (.iload_n 2, 1) := by decide +kernel
theorem dJ7_fill_53178_6 : decode cJ7_fill_53178 6 = .ok (.iload_n 3, 1) := by decide +kernel
theorem dJ7_fill_53178_7 : decode cJ7_fill_53178 7 = .ok (.if_icmp .ge 13, 3) := by decide +kernel
theorem dJ7_fill_53178_10 : decode cJ7_fill_53178 10 = .ok (.aload_n 0, 1) := by decide +kernel
theorem dJ7_fill_53178_11 : decode cJ7_fill_53178 11 = .ok (.iload_n 2, 1) := by decide +kernel
theorem dJ7_fill_53178_12 : decode cJ7_fill_53178 12 = .ok (.iload_n 1, 1) := by decide +kernel
theorem dJ7_fill_53178_13 : decode cJ7_fill_53178 13 = .ok (.iastore, 1) := by decide +kernel
theorem dJ7_fill_53178_14 : decode cJ7_fill_53178 14 = .ok (.iinc 2 1, 3) := by decide +kernel
theorem dJ7_fill_53178_17 : decode cJ7_fill_53178 17 = .ok (.goto (-12), 3) := by decide +kernel
theorem dJ7_fill_53178_20 : decode cJ7_fill_53178 20 = .ok (.return_, 1) := by decide +kernel
set_option maxRecDepth 20000 in
theorem ggL_addGrade_X4_addGrade : GoodIn wsL_addGrade wsX4_addGrade := goodIn_ca (goodIn_ca (goodIn_ca (goodIn_r _ [7, 8, 9, 10, 11, 12, 13, 14, 15, 6, 16, 17, 18, 19, 20, 21, 22, 23, 24, 25, 26, 27, 28, 29, 30, 31, 32, 33] (by decide +kernel) (by decide +kernel)) (goodIn_sub (fun _ h => List.mem_cons_of_mem _ (List.mem_append_left _ (List.mem_append_right _ h))) (by decide +kernel))) (goodIn_sub (fun _ h => List.mem_cons_of_mem _ (List.mem_append_right _ h)) (by decide +kernel))) (goodIn_sub (fun _ h => List.mem_cons_of_mem _ (List.mem_append_left _ (List.mem_append_left _ (List.mem_append_right _ h)))) (by decide +kernel))
set_option maxRecDepth 20000 in
theorem gL_addGrade_X4_addGrade : GoodIn wsL_addGrade (wsV RL 7 RX4 yX4_addGrade wsX4_addGrade) := goodIn_app (goodIn_of _ (by decide +kernel)) ggL_addGrade_X4_addGrade
theorem dL_addGrade_0 : decode cL_addGrade 0 = .ok (.aload_n 2, 1) := by decide +kernel
theorem dL_addGrade_1 : decode cL_addGrade 1 = .ok (.iconst 0, 1) := by decide +kernel
theorem dL_addGrade_2 : decode cL_addGrade 2 = .ok (.aload_n 0, 1) := by decide +kernel
theorem dL_addGrade_3 : decode cL_addGrade 3 = .ok (.iload_n 1, 1) := by decide +kernel
theorem dL_addGrade_4 : decode cL_addGrade 4 = .ok (.invokevirtual 7, 3) := by decide +kernel
theorem dL_addGrade_7 : decode cL_addGrade 7 = .ok (.i2l, 1) := by decide +kernel
theorem dL_addGrade_8 : decode cL_addGrade 8 = .ok (.lastore, 1) := by decide +kernel
theorem dL_addGrade_9 : decode cL_addGrade 9 = .ok (.goto 9, 3) := by decide +kernel
theorem dL_addGrade_12 : decode cL_addGrade 12 = .ok (.astore_n 3, 1) := by decide +kernel
theorem dL_addGrade_13 : decode cL_addGrade 13 = .ok (.iconst 1, 1) := by decide +kernel
theorem dL_addGrade_14 : decode cL_addGrade 14 = .ok (.ireturn, 1) := by decide +kernel
theorem dL_addGrade_15 : decode cL_addGrade 15 = .ok (.astore_n 3, 1) := by decide +kernel
theorem dL_addGrade_16 : decode cL_addGrade 16 = .ok (.iconst 2, 1) := by decide +kernel
theorem dL_addGrade_17 : decode cL_addGrade 17 = .ok (.ireturn, 1) := by decide +kernel
theorem dL_addGrade_18 : decode cL_addGrade 18 = .ok (.iconst 0, 1) := by decide +kernel
theorem dL_addGrade_19 : decode cL_addGrade 19 = .ok (.ireturn, 1) := by decide +kernel
set_option maxRecDepth 20000 in
theorem ggL_setWidth_X4_setWidth : GoodIn wsL_setWidth wsX4_setWidth := goodIn_ca (goodIn_ca (goodIn_ca (goodIn_r _ [7, 8, 9, 10, 11, 12, 13, 14, 15, 6, 16, 17, 18, 19, 20, 21, 22, 23, 24, 25, 26, 27, 28, 29, 30, 31, 32, 33, 34, 35, 36, 37, 38, 39, 40, 41, 42, 43, 44, 45, 46] (by decide +kernel) (by decide +kernel)) (goodIn_sub (fun _ h => List.mem_cons_of_mem _ (List.mem_append_left _ (List.mem_append_right _ h))) (by decide +kernel))) (goodIn_sub (fun _ h => List.mem_cons_of_mem _ (List.mem_append_right _ h)) (by decide +kernel))) (goodIn_sub (fun _ h => List.mem_cons_of_mem _ (List.mem_append_left _ (List.mem_append_left _ (List.mem_append_right _ h)))) (by decide +kernel))
set_option maxRecDepth 20000 in
theorem gL_setWidth_X4_setWidth : GoodIn wsL_setWidth (wsV RL 17 RX4 yX4_setWidth wsX4_setWidth) := goodIn_app (goodIn_of _ (by decide +kernel)) ggL_setWidth_X4_setWidth
theorem dL_setWidth_0 : decode cL_setWidth 0 = .ok (.aload_n 2, 1) := by decide +kernel
theorem dL_setWidth_1 : decode cL_setWidth 1 = .ok (.iconst 0, 1) := by decide +kernel
theorem dL_setWidth_2 : decode cL_setWidth 2 = .ok (.aload_n 0, 1) := by decide +kernel
theorem dL_setWidth_3 : decode cL_setWidth 3 = .ok (.iload_n 1, 1) := by decide +kernel
theorem dL_setWidth_4 : decode cL_setWidth 4 = .ok (.invokevirtual 17, 3) := by decide +kernel
theorem dL_setWidth_7 : decode cL_setWidth 7 = .ok (.i2l, 1) := by decide +kernel
theorem dL_setWidth_8 : decode cL_setWidth 8 = .ok (.lastore, 1) := by decide +kernel
theorem dL_setWidth_9 : decode cL_setWidth 9 = .ok (.goto 9, 3) := by decide +kernel
theorem dL_setWidth_12 : decode cL_setWidth 12 = .ok (.astore_n 3, 1) := by decide +kernel
theorem dL_setWidth_13 : decode cL_setWidth 13 = .ok (.iconst 1, 1) := by decide +kernel
theorem dL_setWidth_14 : decode cL_setWidth 14 = .ok (.ireturn, 1) := by decide +kernel
theorem dL_setWidth_15 : decode cL_setWidth 15 = .ok (.astore_n 3, 1) := by decide +kernel
theorem dL_setWidth_16 : decode cL_setWidth 16 = .ok (.iconst 2, 1) := by decide +kernel
theorem dL_setWidth_17 : decode cL_setWidth 17 = .ok (.ireturn, 1) := by decide +kernel
theorem dL_setWidth_18 : decode cL_setWidth 18 = .ok (.iconst 0, 1) := by decide +kernel
theorem dL_setWidth_19 : decode cL_setWidth 19 = .ok (.ireturn, 1) := by decide +kernel
set_option maxRecDepth 20000 in
theorem ggL_change_X4_change : GoodIn wsL_change wsX4_change := goodIn_ca (goodIn_ca (goodIn_ca (goodIn_ca (goodIn_r _ [8, 9, 10, 11, 12, 13, 14, 15, 16, 17, 18, 19, 20, 21, 22, 23, 24, 25, 7, 26, 27, 28, 29, 30, 31, 32, 33, 34, 35, 36, 37, 38, 39, 40] (by decide +kernel) (by decide +kernel)) (goodIn_sub (fun _ h => List.mem_cons_of_mem _ (List.mem_append_left _ (List.mem_append_left _ (List.mem_append_right _ h)))) (by decide +kernel))) (goodIn_sub (fun _ h => List.mem_cons_of_mem _ (List.mem_append_left _ (List.mem_append_right _ h))) (by decide +kernel))) (goodIn_sub (fun _ h => List.mem_cons_of_mem _ (List.mem_append_right _ h)) (by decide +kernel))) (goodIn_sub (fun _ h => List.mem_cons_of_mem _ (List.mem_append_left _ (List.mem_append_left _ (List.mem_append_left _ (List.mem_append_right _ h))))) (by decide +kernel))
set_option maxRecDepth 20000 in
theorem gL_change_X4_change : GoodIn wsL_change (wsV RL 20 RX4 yX4_change wsX4_change) := goodIn_app (goodIn_of _ (by decide +kernel)) ggL_change_X4_change
theorem dL_change_0 : decode cL_change 0 = .ok (.aload_n 2, 1) := by decide +kernel
theorem dL_change_1 : decode cL_change 1 = .ok (.iconst 0, 1) := by decide +kernel
theorem dL_change_2 : decode cL_change 2 = .ok (.aload_n 0, 1) := by decide +kernel
theorem dL_change_3 : decode cL_change 3 = .ok (.iload_n 1, 1) := by decide +kernel
theorem dL_change_4 : decode cL_change 4 = .ok (.invokevirtual 20, 3) := by decide +kernel
theorem dL_change_7 : decode cL_change 7 = .ok (.i2l, 1) := by decide +kernel
theorem dL_change_8 : decode cL_change 8 = .ok (.lastore, 1) := by decide +kernel
theorem dL_change_9 : decode cL_change 9 = .ok (.goto 12, 3) := by decide +kernel
theorem dL_change_12 : decode cL_change 12 = .ok (.astore_n 3, 1) := by decide +kernel
theorem dL_change_13 : decode cL_change 13 = .ok (.iconst 1, 1) := by decide +kernel
theorem dL_change_14 : decode cL_change 14 = .ok (.ireturn, 1) := by decide +kernel
theorem dL_change_15 : decode cL_change 15 = .ok (.astore_n 3, 1) := by decide +kernel
theorem dL_change_16 : decode cL_change 16 = .ok (.iconst 2, 1) := by decide +kernel
theorem dL_change_17 : decode cL_change 17 = .ok (.ireturn, 1) := by decide +kernel
theorem dL_change_18 : decode cL_change 18 = .ok (.astore_n 3, 1) := by decide +kernel
theorem dL_change_19 : decode cL_change 19 = .ok (.iconst 3, 1) := by decide +kernel
theorem dL_change_20 : decode cL_change 20 = .ok (.ireturn, 1) := by decide +kernel
theorem dL_change_21 : decode cL_change 21 = .ok (.iconst 0, 1) := by decide +kernel
theorem dL_change_22 : decode cL_change 22 = .ok (.ireturn, 1) := by decide +kernel
set_option maxRecDepth 20000 in
theorem ggL_grade_X4_grade : GoodIn wsL_grade wsX4_grade := goodIn_ca (goodIn_r _ [6, 7, 8, 9, 10, 11, 12, 5, 13, 14, 15, 16, 17, 18, 19, 20, 21, 22, 23, 24, 25, 26, 27] (by decide +kernel) (by decide +kernel)) (goodIn_sub (fun _ h => List.mem_cons_of_mem _ (List.mem_append_right _ h)) (by decide +kernel))
set_option maxRecDepth 20000 in
theorem gL_grade_X4_grade : GoodIn wsL_grade (wsV RL 25 RX4 yX4_grade wsX4_grade) := goodIn_app (goodIn_of _ (by decide +kernel)) ggL_grade_X4_grade
theorem dL_grade_0 : decode cL_grade 0 = .ok (.aload_n 1, 1) := by decide +kernel
theorem dL_grade_1 : decode cL_grade 1 = .ok (.iconst 0, 1) := by decide +kernel
theorem dL_grade_2 : decode cL_grade 2 = .ok (.aload_n 0, 1) := by decide +kernel
theorem dL_grade_3 : decode cL_grade 3 = .ok (.invokevirtual 25, 3) := by decide +kernel
theorem dL_grade_6 : decode cL_grade 6 = .ok (.i2l, 1) := by decide +kernel
theorem dL_grade_7 : decode cL_grade 7 = .ok (.lastore, 1) := by decide +kernel
theorem dL_grade_8 : decode cL_grade 8 = .ok (.goto 6, 3) := by decide +kernel
theorem dL_grade_11 : decode cL_grade 11 = .ok (.astore_n 2, 1) := by decide +kernel
theorem dL_grade_12 : decode cL_grade 12 = .ok (.iconst 1, 1) := by decide +kernel
theorem dL_grade_13 : decode cL_grade 13 = .ok (.ireturn, 1) := by decide +kernel
theorem dL_grade_14 : decode cL_grade 14 = .ok (.iconst 0, 1) := by decide +kernel
theorem dL_grade_15 : decode cL_grade 15 = .ok (.ireturn, 1) := by decide +kernel
set_option maxRecDepth 20000 in
theorem ggL_next_X4_next : GoodIn wsL_next wsX4_next := goodIn_ca (goodIn_ca (goodIn_r _ [6, 7, 8, 9, 10, 11, 12, 13, 14, 5, 15, 16, 17, 18, 19, 20, 21, 22, 23, 24, 25, 26, 27, 28, 29, 30, 31, 32, 33, 34, 35, 36, 37, 38, 39, 40, 41, 42, 43, 44, 45, 46, 47] (by decide +kernel) (by decide +kernel)) (goodIn_sub (fun _ h => List.mem_cons_of_mem _ (List.mem_append_left _ (List.mem_append_right _ h))) (by decide +kernel))) (goodIn_sub (fun _ h => List.mem_cons_of_mem _ (List.mem_append_right _ h)) (by decide +kernel))
set_option maxRecDepth 20000 in
theorem gL_next_X4_next : GoodIn wsL_next (wsV RL 31 RX4 yX4_next wsX4_next) := goodIn_app (goodIn_of _ (by decide +kernel)) ggL_next_X4_next
theorem dL_next_0 : decode cL_next 0 = .ok (.aload_n 1, 1) := by decide +kernel
theorem dL_next_1 : decode cL_next 1 = .ok (.iconst 0, 1) := by decide +kernel
theorem dL_next_2 : decode cL_next 2 = .ok (.aload_n 0, 1) := by decide +kernel
theorem dL_next_3 : decode cL_next 3 = .ok (.invokevirtual 31, 3) := by decide +kernel
theorem dL_next_6 : decode cL_next 6 = .ok (.i2l, 1) := by decide +kernel
theorem dL_next_7 : decode cL_next 7 = .ok (.lastore, 1) := by decide +kernel
theorem dL_next_8 : decode cL_next 8 = .ok (.goto 6, 3) := by decide +kernel
theorem dL_next_11 : decode cL_next 11 = .ok (.astore_n 2, 1) := by decide +kernel
theorem dL_next_12 : decode cL_next 12 = .ok (.iconst 1, 1) := by decide +kernel
theorem dL_next_13 : decode cL_next 13 = .ok (.ireturn, 1) := by decide +kernel
theorem dL_next_14 : decode cL_next 14 = .ok (.iconst 0, 1) := by decide +kernel
theorem dL_next_15 : decode cL_next 15 = .ok (.ireturn, 1) := by decide +kernel
set_option maxRecDepth 20000 in
theorem ggL_mass_X4_mass : GoodIn wsL_mass wsX4_mass := goodIn_ca (goodIn_ca (goodIn_r _ [6, 7, 8, 9, 10, 11, 5, 12, 13, 14, 15, 16, 17, 18, 19, 20, 21, 22, 23, 24, 25, 26, 27, 28, 29, 30, 31, 32] (by decide +kernel) (by decide +kernel)) (goodIn_sub (fun _ h => List.mem_cons_of_mem _ (List.mem_append_right _ h)) (by decide +kernel))) (goodIn_sub (fun _ h => List.mem_cons_of_mem _ (List.mem_append_left _ (List.mem_append_right _ h))) (by decide +kernel))
set_option maxRecDepth 20000 in
theorem gL_mass_X4_mass : GoodIn wsL_mass (wsV RL 34 RX4 yX4_mass wsX4_mass) := goodIn_app (goodIn_of _ (by decide +kernel)) ggL_mass_X4_mass
theorem dL_mass_0 : decode cL_mass 0 = .ok (.aload_n 2, 1) := by decide +kernel
theorem dL_mass_1 : decode cL_mass 1 = .ok (.iconst 0, 1) := by decide +kernel
theorem dL_mass_2 : decode cL_mass 2 = .ok (.aload_n 0, 1) := by decide +kernel
theorem dL_mass_3 : decode cL_mass 3 = .ok (.iload_n 1, 1) := by decide +kernel
theorem dL_mass_4 : decode cL_mass 4 = .ok (.invokevirtual 34, 3) := by decide +kernel
theorem dL_mass_7 : decode cL_mass 7 = .ok (.i2l, 1) := by decide +kernel
theorem dL_mass_8 : decode cL_mass 8 = .ok (.lastore, 1) := by decide +kernel
theorem dL_mass_9 : decode cL_mass 9 = .ok (.goto 6, 3) := by decide +kernel
theorem dL_mass_12 : decode cL_mass 12 = .ok (.astore_n 3, 1) := by decide +kernel
theorem dL_mass_13 : decode cL_mass 13 = .ok (.iconst 1, 1) := by decide +kernel
theorem dL_mass_14 : decode cL_mass 14 = .ok (.ireturn, 1) := by decide +kernel
theorem dL_mass_15 : decode cL_mass 15 = .ok (.iconst 0, 1) := by decide +kernel
theorem dL_mass_16 : decode cL_mass 16 = .ok (.ireturn, 1) := by decide +kernel
set_option maxRecDepth 20000 in
theorem ggL_order_X4_order : GoodIn wsL_order wsX4_order := goodIn_ca (goodIn_ca (goodIn_ca (goodIn_ca (goodIn_ca (goodIn_r _ [9, 10, 11, 12, 13, 14, 15, 16, 17, 18, 19, 20, 21, 22, 8, 23, 24, 25, 26, 27, 28, 29, 30, 31, 32, 33, 34, 35, 36, 37, 38, 39, 40, 41, 42, 43, 44, 45, 46, 47, 48, 49, 50, 51, 52, 53, 54, 55, 56, 57, 58, 59, 60] (by decide +kernel) (by decide +kernel)) (goodIn_sub (fun _ h => List.mem_cons_of_mem _ (List.mem_append_left _ (List.mem_append_left _ (List.mem_append_left _ (List.mem_append_right _ h))))) (by decide +kernel))) (goodIn_sub (fun _ h => List.mem_cons_of_mem _ (List.mem_append_left _ (List.mem_append_left _ (List.mem_append_right _ h)))) (by decide +kernel))) (goodIn_sub (fun _ h => List.mem_cons_of_mem _ (List.mem_append_left _ (List.mem_append_right _ h))) (by decide +kernel))) (goodIn_sub (fun _ h => List.mem_cons_of_mem _ (List.mem_append_right _ h)) (by decide +kernel))) (goodIn_sub (fun _ h => List.mem_cons_of_mem _ (List.mem_append_left _ (List.mem_append_left _ (List.mem_append_left _ (List.mem_append_left _ (List.mem_append_right _ h)))))) (by decide +kernel))
set_option maxRecDepth 20000 in
theorem gL_order_X4_order : GoodIn wsL_order (wsV RL 37 RX4 yX4_order wsX4_order) := goodIn_app (goodIn_of _ (by decide +kernel)) ggL_order_X4_order
theorem dL_order_0 : decode cL_order 0 = .ok (.aload 4, 2) := by decide +kernel
theorem dL_order_2 : decode cL_order 2 = .ok (.iconst 0, 1) := by decide +kernel
theorem dL_order_3 : decode cL_order 3 = .ok (.aload_n 0, 1) := by decide +kernel
theorem dL_order_4 : decode cL_order 4 = .ok (.iload_n 1, 1) := by decide +kernel
theorem dL_order_5 : decode cL_order 5 = .ok (.iload_n 2, 1) := by decide +kernel
theorem dL_order_6 : decode cL_order 6 = .ok (.iload_n 3, 1) := by decide +kernel
theorem dL_order_7 : decode cL_order 7 = .ok (.invokevirtual 37, 3) := by decide +kernel
theorem dL_order_10 : decode cL_order 10 = .ok (.i2l, 1) := by decide +kernel
theorem dL_order_11 : decode cL_order 11 = .ok (.lastore, 1) := by decide +kernel
theorem dL_order_12 : decode cL_order 12 = .ok (.goto 19, 3) := by decide +kernel
theorem dL_order_15 : decode cL_order 15 = .ok (.astore 5, 2) := by decide +kernel
theorem dL_order_17 : decode cL_order 17 = .ok (.iconst 1, 1) := by decide +kernel
theorem dL_order_18 : decode cL_order 18 = .ok (.ireturn, 1) := by decide +kernel
theorem dL_order_19 : decode cL_order 19 = .ok (.astore 5, 2) := by decide +kernel
theorem dL_order_21 : decode cL_order 21 = .ok (.iconst 2, 1) := by decide +kernel
theorem dL_order_22 : decode cL_order 22 = .ok (.ireturn, 1) := by decide +kernel
theorem dL_order_23 : decode cL_order 23 = .ok (.astore 5, 2) := by decide +kernel
theorem dL_order_25 : decode cL_order 25 = .ok (.iconst 3, 1) := by decide +kernel
theorem dL_order_26 : decode cL_order 26 = .ok (.ireturn, 1) := by decide +kernel
theorem dL_order_27 : decode cL_order 27 = .ok (.astore 5, 2) := by decide +kernel
theorem dL_order_29 : decode cL_order 29 = .ok (.iconst 4, 1) := by decide +kernel
theorem dL_order_30 : decode cL_order 30 = .ok (.ireturn, 1) := by decide +kernel
theorem dL_order_31 : decode cL_order 31 = .ok (.iconst 0, 1) := by decide +kernel
theorem dL_order_32 : decode cL_order 32 = .ok (.ireturn, 1) := by decide +kernel
set_option maxRecDepth 20000 in
theorem ggL_cancel_X4_cancel : GoodIn wsL_cancel wsX4_cancel := goodIn_ca (goodIn_ca (goodIn_ca (goodIn_r _ [7, 8, 9, 10, 11, 12, 13, 14, 15, 16, 17, 18, 19, 20, 21, 22, 23, 24, 25, 26, 27, 28, 29, 30, 31, 32, 33, 34, 35, 36, 37] (by decide +kernel) (by decide +kernel)) (goodIn_sub (fun _ h => List.mem_cons_of_mem _ (List.mem_append_left _ (List.mem_append_right _ h))) (by decide +kernel))) (goodIn_sub (fun _ h => List.mem_cons_of_mem _ (List.mem_append_left _ (List.mem_append_left _ (List.mem_append_right _ h)))) (by decide +kernel))) (goodIn_sub (fun _ h => List.mem_cons_of_mem _ (List.mem_append_right _ h)) (by decide +kernel))
set_option maxRecDepth 20000 in
theorem gL_cancel_X4_cancel : GoodIn wsL_cancel (wsV RL 43 RX4 yX4_cancel wsX4_cancel) := goodIn_app (goodIn_of _ (by decide +kernel)) ggL_cancel_X4_cancel
theorem dL_cancel_0 : decode cL_cancel 0 = .ok (.aload_n 2, 1) := by decide +kernel
theorem dL_cancel_1 : decode cL_cancel 1 = .ok (.iconst 0, 1) := by decide +kernel
theorem dL_cancel_2 : decode cL_cancel 2 = .ok (.aload_n 0, 1) := by decide +kernel
theorem dL_cancel_3 : decode cL_cancel 3 = .ok (.iload_n 1, 1) := by decide +kernel
theorem dL_cancel_4 : decode cL_cancel 4 = .ok (.invokevirtual 43, 3) := by decide +kernel
theorem dL_cancel_7 : decode cL_cancel 7 = .ok (.i2l, 1) := by decide +kernel
theorem dL_cancel_8 : decode cL_cancel 8 = .ok (.lastore, 1) := by decide +kernel
theorem dL_cancel_9 : decode cL_cancel 9 = .ok (.goto 9, 3) := by decide +kernel
theorem dL_cancel_12 : decode cL_cancel 12 = .ok (.astore_n 3, 1) := by decide +kernel
theorem dL_cancel_13 : decode cL_cancel 13 = .ok (.iconst 1, 1) := by decide +kernel
theorem dL_cancel_14 : decode cL_cancel 14 = .ok (.ireturn, 1) := by decide +kernel
theorem dL_cancel_15 : decode cL_cancel 15 = .ok (.astore_n 3, 1) := by decide +kernel
theorem dL_cancel_16 : decode cL_cancel 16 = .ok (.iconst 2, 1) := by decide +kernel
theorem dL_cancel_17 : decode cL_cancel 17 = .ok (.ireturn, 1) := by decide +kernel
theorem dL_cancel_18 : decode cL_cancel 18 = .ok (.iconst 0, 1) := by decide +kernel
theorem dL_cancel_19 : decode cL_cancel 19 = .ok (.ireturn, 1) := by decide +kernel
set_option maxRecDepth 20000 in
theorem ggL_cut_X4_cut : GoodIn wsL_cut wsX4_cut := goodIn_ca (goodIn_ca (goodIn_r _ [6, 7, 8, 9, 10, 11, 12, 13, 14, 15, 16, 17, 18, 19, 20, 21, 22, 23, 24, 25, 26, 27, 28, 29, 30, 31, 32, 33, 34] (by decide +kernel) (by decide +kernel)) (goodIn_sub (fun _ h => List.mem_cons_of_mem _ (List.mem_append_right _ h)) (by decide +kernel))) (goodIn_sub (fun _ h => List.mem_cons_of_mem _ (List.mem_append_left _ (List.mem_append_right _ h))) (by decide +kernel))
set_option maxRecDepth 20000 in
theorem gL_cut_X4_cut : GoodIn wsL_cut (wsV RL 46 RX4 yX4_cut wsX4_cut) := goodIn_app (goodIn_of _ (by decide +kernel)) ggL_cut_X4_cut
theorem dL_cut_0 : decode cL_cut 0 = .ok (.aload_n 2, 1) := by decide +kernel
theorem dL_cut_1 : decode cL_cut 1 = .ok (.iconst 0, 1) := by decide +kernel
theorem dL_cut_2 : decode cL_cut 2 = .ok (.aload_n 0, 1) := by decide +kernel
theorem dL_cut_3 : decode cL_cut 3 = .ok (.iload_n 1, 1) := by decide +kernel
theorem dL_cut_4 : decode cL_cut 4 = .ok (.invokevirtual 46, 3) := by decide +kernel
theorem dL_cut_7 : decode cL_cut 7 = .ok (.i2l, 1) := by decide +kernel
theorem dL_cut_8 : decode cL_cut 8 = .ok (.lastore, 1) := by decide +kernel
theorem dL_cut_9 : decode cL_cut 9 = .ok (.goto 6, 3) := by decide +kernel
theorem dL_cut_12 : decode cL_cut 12 = .ok (.astore_n 3, 1) := by decide +kernel
theorem dL_cut_13 : decode cL_cut 13 = .ok (.iconst 1, 1) := by decide +kernel
theorem dL_cut_14 : decode cL_cut 14 = .ok (.ireturn, 1) := by decide +kernel
theorem dL_cut_15 : decode cL_cut 15 = .ok (.iconst 0, 1) := by decide +kernel
theorem dL_cut_16 : decode cL_cut 16 = .ok (.ireturn, 1) := by decide +kernel
set_option maxRecDepth 20000 in
theorem ggL_lacks_X4_lacks : GoodIn wsL_lacks wsX4_lacks := goodIn_ca (goodIn_ca (goodIn_r _ [6, 7, 8, 9, 10, 11, 12, 13, 14, 15, 16, 17, 18, 19, 20, 21, 22, 23, 24, 25, 26, 27, 28, 29, 30, 31, 32, 33, 34] (by decide +kernel) (by decide +kernel)) (goodIn_sub (fun _ h => List.mem_cons_of_mem _ (List.mem_append_right _ h)) (by decide +kernel))) (goodIn_sub (fun _ h => List.mem_cons_of_mem _ (List.mem_append_left _ (List.mem_append_right _ h))) (by decide +kernel))
set_option maxRecDepth 20000 in
theorem gL_lacks_X4_lacks : GoodIn wsL_lacks (wsV RL 49 RX4 yX4_lacks wsX4_lacks) := goodIn_app (goodIn_of _ (by decide +kernel)) ggL_lacks_X4_lacks
theorem dL_lacks_0 : decode cL_lacks 0 = .ok (.aload_n 2, 1) := by decide +kernel
theorem dL_lacks_1 : decode cL_lacks 1 = .ok (.iconst 0, 1) := by decide +kernel
theorem dL_lacks_2 : decode cL_lacks 2 = .ok (.aload_n 0, 1) := by decide +kernel
theorem dL_lacks_3 : decode cL_lacks 3 = .ok (.iload_n 1, 1) := by decide +kernel
theorem dL_lacks_4 : decode cL_lacks 4 = .ok (.invokevirtual 49, 3) := by decide +kernel
theorem dL_lacks_7 : decode cL_lacks 7 = .ok (.i2l, 1) := by decide +kernel
theorem dL_lacks_8 : decode cL_lacks 8 = .ok (.lastore, 1) := by decide +kernel
theorem dL_lacks_9 : decode cL_lacks 9 = .ok (.goto 6, 3) := by decide +kernel
theorem dL_lacks_12 : decode cL_lacks 12 = .ok (.astore_n 3, 1) := by decide +kernel
theorem dL_lacks_13 : decode cL_lacks 13 = .ok (.iconst 1, 1) := by decide +kernel
theorem dL_lacks_14 : decode cL_lacks 14 = .ok (.ireturn, 1) := by decide +kernel
theorem dL_lacks_15 : decode cL_lacks 15 = .ok (.iconst 0, 1) := by decide +kernel
theorem dL_lacks_16 : decode cL_lacks 16 = .ok (.ireturn, 1) := by decide +kernel
set_option maxRecDepth 20000 in
theorem ggL_trim_X4_trim : GoodIn wsL_trim wsX4_trim := goodIn_ca (goodIn_ca (goodIn_r _ [6, 7, 8, 9, 10, 11, 12, 13, 14, 5, 15, 16, 17, 18, 19, 20, 21, 22, 23, 24, 25, 26, 27, 28, 29, 30, 31, 32, 33, 34, 35, 36, 37, 38, 39, 40, 41, 42, 43, 44, 45, 46, 47, 48, 49, 50, 51, 52, 53, 54, 55, 56, 57, 58, 59, 60, 61, 62, 63, 64, 65, 66, 67, 68, 69, 70, 71, 72, 73, 74, 75, 76, 77, 78, 79, 80, 81, 82, 83, 84, 85, 86, 87, 88, 89] (by decide +kernel) (by decide +kernel)) (goodIn_sub (fun _ h => List.mem_cons_of_mem _ (List.mem_append_right _ h)) (by decide +kernel))) (goodIn_sub (fun _ h => List.mem_cons_of_mem _ (List.mem_append_left _ (List.mem_append_right _ h))) (by decide +kernel))
set_option maxRecDepth 20000 in
theorem gL_trim_X4_trim : GoodIn wsL_trim (wsV RL 52 RX4 yX4_trim wsX4_trim) := goodIn_app (goodIn_of _ (by decide +kernel)) ggL_trim_X4_trim
theorem dL_trim_0 : decode cL_trim 0 = .ok (.aload_n 2, 1) := by decide +kernel
theorem dL_trim_1 : decode cL_trim 1 = .ok (.iconst 0, 1) := by decide +kernel
theorem dL_trim_2 : decode cL_trim 2 = .ok (.aload_n 0, 1) := by decide +kernel
theorem dL_trim_3 : decode cL_trim 3 = .ok (.iload_n 1, 1) := by decide +kernel
theorem dL_trim_4 : decode cL_trim 4 = .ok (.invokevirtual 52, 3) := by decide +kernel
theorem dL_trim_7 : decode cL_trim 7 = .ok (.i2l, 1) := by decide +kernel
theorem dL_trim_8 : decode cL_trim 8 = .ok (.lastore, 1) := by decide +kernel
theorem dL_trim_9 : decode cL_trim 9 = .ok (.goto 6, 3) := by decide +kernel
theorem dL_trim_12 : decode cL_trim 12 = .ok (.astore_n 3, 1) := by decide +kernel
theorem dL_trim_13 : decode cL_trim 13 = .ok (.iconst 1, 1) := by decide +kernel
theorem dL_trim_14 : decode cL_trim 14 = .ok (.ireturn, 1) := by decide +kernel
theorem dL_trim_15 : decode cL_trim 15 = .ok (.iconst 0, 1) := by decide +kernel
theorem dL_trim_16 : decode cL_trim 16 = .ok (.ireturn, 1) := by decide +kernel
set_option maxRecDepth 20000 in
theorem ggL_trimByTable_X4_trimByTable : GoodIn wsL_trimByTable wsX4_trimByTable := goodIn_ca (goodIn_ca (goodIn_r _ [6, 7, 8, 9, 10, 11, 12, 13, 14, 5, 15, 16, 17, 18, 19, 20, 21, 22, 23, 24, 25, 26, 27, 28, 29, 30, 31, 32, 33, 34, 35, 36, 37, 38, 39, 40, 41, 42, 43, 44, 45, 46, 47, 48, 49, 50, 51, 52, 53, 54, 55, 56, 57, 58, 59, 60, 61, 62, 63, 64, 65, 66, 67, 68, 69, 70, 71, 72, 73, 74, 75, 76, 77, 78, 79, 80] (by decide +kernel) (by decide +kernel)) (goodIn_sub (fun _ h => List.mem_cons_of_mem _ (List.mem_append_right _ h)) (by decide +kernel))) (goodIn_sub (fun _ h => List.mem_cons_of_mem _ (List.mem_append_left _ (List.mem_append_right _ h))) (by decide +kernel))
set_option maxRecDepth 20000 in
theorem gL_trimByTable_X4_trimByTable : GoodIn wsL_trimByTable (wsV RL 55 RX4 yX4_trimByTable wsX4_trimByTable) := goodIn_app (goodIn_of _ (by decide +kernel)) ggL_trimByTable_X4_trimByTable
theorem dL_trimByTable_0 : decode cL_trimByTable 0 = .ok (.aload_n 2, 1) := by decide +kernel
theorem dL_trimByTable_1 : decode cL_trimByTable 1 = .ok (.iconst 0, 1) := by decide +kernel
theorem dL_trimByTable_2 : decode cL_trimByTable 2 = .ok (.aload_n 0, 1) := by decide +kernel
theorem dL_trimByTable_3 : decode cL_trimByTable 3 = .ok (.iload_n 1, 1) := by decide +kernel
theorem dL_trimByTable_4 : decode cL_trimByTable 4 = .ok (.invokevirtual 55, 3) := by decide +kernel
theorem dL_trimByTable_7 : decode cL_trimByTable 7 = .ok (.i2l, 1) := by decide +kernel
theorem dL_trimByTable_8 : decode cL_trimByTable 8 = .ok (.lastore, 1) := by decide +kernel
theorem dL_trimByTable_9 : decode cL_trimByTable 9 = .ok (.goto 6, 3) := by decide +kernel
theorem dL_trimByTable_12 : decode cL_trimByTable 12 = .ok (.astore_n 3, 1) := by decide +kernel
theorem dL_trimByTable_13 : decode cL_trimByTable 13 = .ok (.iconst 1, 1) := by decide +kernel
theorem dL_trimByTable_14 : decode cL_trimByTable 14 = .ok (.ireturn, 1) := by decide +kernel
theorem dL_trimByTable_15 : decode cL_trimByTable 15 = .ok (.iconst 0, 1) := by decide +kernel
theorem dL_trimByTable_16 : decode cL_trimByTable 16 = .ok (.ireturn, 1) := by decide +kernel
set_option maxRecDepth 20000 in
theorem ggL_inCut_X4_inCut : GoodIn wsL_inCut wsX4_inCut := goodIn_ca (goodIn_ca (goodIn_r _ [6, 7, 8, 9, 10, 11, 12, 13, 14, 15, 16, 17, 18, 19, 20, 21, 22, 23, 24, 25, 26, 27, 28, 29, 30, 31, 32, 33, 34, 35, 36, 37, 38, 39, 40, 41, 42, 43, 44, 45, 46, 47, 48, 49, 50, 51, 52, 53, 54, 55, 56, 57, 58, 59, 60, 61, 62, 63, 64, 65, 66, 67, 68, 69, 70, 71, 72, 73, 74, 75, 76, 77, 78, 79, 80, 81, 82, 83, 84, 85, 86, 87] (by decide +kernel) (by decide +kernel)) (goodIn_sub (fun _ h => List.mem_cons_of_mem _ (List.mem_append_right _ h)) (by decide +kernel))) (goodIn_sub (fun _ h => List.mem_cons_of_mem _ (List.mem_append_left _ (List.mem_append_right _ h))) (by decide +kernel))
set_option maxRecDepth 20000 in
theorem gL_inCut_X4_inCut : GoodIn wsL_inCut (wsV RL 58 RX4 yX4_inCut wsX4_inCut) := goodIn_app (goodIn_of _ (by decide +kernel)) ggL_inCut_X4_inCut
theorem dL_inCut_0 : decode cL_inCut 0 = .ok (.aload_n 2, 1) := by decide +kernel
theorem dL_inCut_1 : decode cL_inCut 1 = .ok (.iconst 0, 1) := by decide +kernel
theorem dL_inCut_2 : decode cL_inCut 2 = .ok (.aload_n 0, 1) := by decide +kernel
theorem dL_inCut_3 : decode cL_inCut 3 = .ok (.iload_n 1, 1) := by decide +kernel
theorem dL_inCut_4 : decode cL_inCut 4 = .ok (.invokevirtual 58, 3) := by decide +kernel
theorem dL_inCut_7 : decode cL_inCut 7 = .ok (.i2l, 1) := by decide +kernel
theorem dL_inCut_8 : decode cL_inCut 8 = .ok (.lastore, 1) := by decide +kernel
theorem dL_inCut_9 : decode cL_inCut 9 = .ok (.goto 6, 3) := by decide +kernel
theorem dL_inCut_12 : decode cL_inCut 12 = .ok (.astore_n 3, 1) := by decide +kernel
theorem dL_inCut_13 : decode cL_inCut 13 = .ok (.iconst 1, 1) := by decide +kernel
theorem dL_inCut_14 : decode cL_inCut 14 = .ok (.ireturn, 1) := by decide +kernel
theorem dL_inCut_15 : decode cL_inCut 15 = .ok (.iconst 0, 1) := by decide +kernel
theorem dL_inCut_16 : decode cL_inCut 16 = .ok (.ireturn, 1) := by decide +kernel
set_option maxRecDepth 20000 in
theorem ggL_leastHours_X4_leastHours : GoodIn wsL_leastHours wsX4_leastHours := goodIn_ca (goodIn_ca (goodIn_ca (goodIn_r _ [6, 7, 8, 9, 10, 11, 12, 13, 14, 15, 16, 17, 5, 18, 19, 20, 21, 22, 23, 24, 25, 26, 27, 28, 29, 30, 31, 32, 33, 34, 35, 36, 37, 38, 39, 40, 41, 42, 43, 44, 45, 46, 47, 48, 49, 50, 51, 52, 53] (by decide +kernel) (by decide +kernel)) (goodIn_sub (fun _ h => List.mem_cons_of_mem _ (List.mem_append_left _ (List.mem_append_right _ h))) (by decide +kernel))) (goodIn_sub (fun _ h => List.mem_cons_of_mem _ (List.mem_append_left _ (List.mem_append_left _ (List.mem_append_right _ h)))) (by decide +kernel))) (goodIn_sub (fun _ h => List.mem_cons_of_mem _ (List.mem_append_right _ h)) (by decide +kernel))
set_option maxRecDepth 20000 in
theorem gL_leastHours_X4_leastHours : GoodIn wsL_leastHours (wsV RL 61 RX4 yX4_leastHours wsX4_leastHours) := goodIn_app (goodIn_of _ (by decide +kernel)) ggL_leastHours_X4_leastHours
theorem dL_leastHours_0 : decode cL_leastHours 0 = .ok (.aload_n 2, 1) := by decide +kernel
theorem dL_leastHours_1 : decode cL_leastHours 1 = .ok (.iconst 0, 1) := by decide +kernel
theorem dL_leastHours_2 : decode cL_leastHours 2 = .ok (.aload_n 0, 1) := by decide +kernel
theorem dL_leastHours_3 : decode cL_leastHours 3 = .ok (.iload_n 1, 1) := by decide +kernel
theorem dL_leastHours_4 : decode cL_leastHours 4 = .ok (.invokevirtual 61, 3) := by decide +kernel
theorem dL_leastHours_7 : decode cL_leastHours 7 = .ok (.i2l, 1) := by decide +kernel
theorem dL_leastHours_8 : decode cL_leastHours 8 = .ok (.lastore, 1) := by decide +kernel
theorem dL_leastHours_9 : decode cL_leastHours 9 = .ok (.goto 6, 3) := by decide +kernel
theorem dL_leastHours_12 : decode cL_leastHours 12 = .ok (.astore_n 3, 1) := by decide +kernel
theorem dL_leastHours_13 : decode cL_leastHours 13 = .ok (.iconst 1, 1) := by decide +kernel
theorem dL_leastHours_14 : decode cL_leastHours 14 = .ok (.ireturn, 1) := by decide +kernel
theorem dL_leastHours_15 : decode cL_leastHours 15 = .ok (.iconst 0, 1) := by decide +kernel
theorem dL_leastHours_16 : decode cL_leastHours 16 = .ok (.ireturn, 1) := by decide +kernel
set_option maxRecDepth 20000 in
theorem ggL_setShare_X4_setShare : GoodIn wsL_setShare wsX4_setShare := goodIn_ca (goodIn_r _ [6, 7, 8, 9, 10, 11, 5, 12, 13, 14, 15, 16, 17, 18, 19, 20, 21, 22, 23, 24, 25] (by decide +kernel) (by decide +kernel)) (goodIn_sub (fun _ h => List.mem_cons_of_mem _ (List.mem_append_right _ h)) (by decide +kernel))
set_option maxRecDepth 20000 in
theorem gL_setShare_X4_setShare : GoodIn wsL_setShare (wsV RL 64 RX4 yX4_setShare wsX4_setShare) := goodIn_app (goodIn_of _ (by decide +kernel)) ggL_setShare_X4_setShare
theorem dL_setShare_0 : decode cL_setShare 0 = .ok (.aload_n 2, 1) := by decide +kernel
theorem dL_setShare_1 : decode cL_setShare 1 = .ok (.iconst 0, 1) := by decide +kernel
theorem dL_setShare_2 : decode cL_setShare 2 = .ok (.aload_n 0, 1) := by decide +kernel
theorem dL_setShare_3 : decode cL_setShare 3 = .ok (.iload_n 1, 1) := by decide +kernel
theorem dL_setShare_4 : decode cL_setShare 4 = .ok (.invokevirtual 64, 3) := by decide +kernel
theorem dL_setShare_7 : decode cL_setShare 7 = .ok (.i2l, 1) := by decide +kernel
theorem dL_setShare_8 : decode cL_setShare 8 = .ok (.lastore, 1) := by decide +kernel
theorem dL_setShare_9 : decode cL_setShare 9 = .ok (.goto 6, 3) := by decide +kernel
theorem dL_setShare_12 : decode cL_setShare 12 = .ok (.astore_n 3, 1) := by decide +kernel
theorem dL_setShare_13 : decode cL_setShare 13 = .ok (.iconst 1, 1) := by decide +kernel
theorem dL_setShare_14 : decode cL_setShare 14 = .ok (.ireturn, 1) := by decide +kernel
theorem dL_setShare_15 : decode cL_setShare 15 = .ok (.iconst 0, 1) := by decide +kernel
theorem dL_setShare_16 : decode cL_setShare 16 = .ok (.ireturn, 1) := by decide +kernel
set_option maxRecDepth 20000 in
theorem ggL_setContract_X4_setContract : GoodIn wsL_setContract wsX4_setContract := goodIn_ca (goodIn_r _ [6, 7, 8, 9, 10, 11, 12, 13, 14, 5, 15, 16, 17, 18, 19, 20, 21, 22, 23, 24, 25, 26, 27, 28, 29, 30, 31] (by decide +kernel) (by decide +kernel)) (goodIn_sub (fun _ h => List.mem_cons_of_mem _ (List.mem_append_right _ h)) (by decide +kernel))
set_option maxRecDepth 20000 in
theorem gL_setContract_X4_setContract : GoodIn wsL_setContract (wsV RL 67 RX4 yX4_setContract wsX4_setContract) := goodIn_app (goodIn_of _ (by decide +kernel)) ggL_setContract_X4_setContract
theorem dL_setContract_0 : decode cL_setContract 0 = .ok (.aload 4, 2) := by decide +kernel
theorem dL_setContract_2 : decode cL_setContract 2 = .ok (.iconst 0, 1) := by decide +kernel
theorem dL_setContract_3 : decode cL_setContract 3 = .ok (.aload_n 0, 1) := by decide +kernel
theorem dL_setContract_4 : decode cL_setContract 4 = .ok (.iload_n 1, 1) := by decide +kernel
theorem dL_setContract_5 : decode cL_setContract 5 = .ok (.iload_n 2, 1) := by decide +kernel
theorem dL_setContract_6 : decode cL_setContract 6 = .ok (.iload_n 3, 1) := by decide +kernel
theorem dL_setContract_7 : decode cL_setContract 7 = .ok (.invokevirtual 67, 3) := by decide +kernel
theorem dL_setContract_10 : decode cL_setContract 10 = .ok (.i2l, 1) := by decide +kernel
theorem dL_setContract_11 : decode cL_setContract 11 = .ok (.lastore, 1) := by decide +kernel
theorem dL_setContract_12 : decode cL_setContract 12 = .ok (.goto 7, 3) := by decide +kernel
theorem dL_setContract_15 : decode cL_setContract 15 = .ok (.astore 5, 2) := by decide +kernel
theorem dL_setContract_17 : decode cL_setContract 17 = .ok (.iconst 1, 1) := by decide +kernel
theorem dL_setContract_18 : decode cL_setContract 18 = .ok (.ireturn, 1) := by decide +kernel
theorem dL_setContract_19 : decode cL_setContract 19 = .ok (.iconst 0, 1) := by decide +kernel
theorem dL_setContract_20 : decode cL_setContract 20 = .ok (.ireturn, 1) := by decide +kernel
set_option maxRecDepth 20000 in
theorem ggL_pass_X4_pass : GoodIn wsL_pass wsX4_pass := goodIn_ca (goodIn_ca (goodIn_ca (goodIn_ca (goodIn_r _ [7, 8, 9, 10, 11, 12, 13, 14, 15, 6, 16, 17, 18, 19, 20, 21, 22, 23, 24, 25, 26, 27, 28, 29, 30, 31, 32, 33, 34, 35, 36, 37, 38, 39, 40, 41, 42, 43, 44, 45, 46, 47, 48, 49, 50, 51, 52, 53, 54, 55, 56, 57, 58, 59, 60, 61, 62, 63, 64, 65, 66, 67, 68, 69, 70, 71, 72, 73, 74, 75, 76, 77, 78, 79, 80, 81, 82, 83, 84, 85, 86, 87, 88, 89, 90, 91, 92, 93, 94, 95, 96, 97, 98, 99, 100, 101, 102, 103, 104, 105, 106, 107, 108, 109, 110, 111, 112, 113, 114, 115, 116, 117, 118, 119, 120, 121, 122, 123, 124, 125, 126, 127, 128, 129, 130, 131, 132, 133, 134, 135, 136, 137, 138, 139, 140, 141, 142, 143, 144, 145, 146, 147, 148, 149, 150, 151, 152, 153, 154, 155, 156, 157, 158, 159, 160, 161, 162, 163, 164, 165, 166, 167, 168, 169, 170, 171, 172, 173, 174, 175] (by decide +kernel) (by decide +kernel)) (goodIn_sub (fun _ h => List.mem_cons_of_mem _ (List.mem_append_left _ (List.mem_append_left _ (List.mem_append_right _ h)))) (by decide +kernel))) (goodIn_sub (fun _ h => List.mem_cons_of_mem _ (List.mem_append_left _ (List.mem_append_right _ h))) (by decide +kernel))) (goodIn_sub (fun _ h => List.mem_cons_of_mem _ (List.mem_append_left _ (List.mem_append_left _ (List.mem_append_left _ (List.mem_append_right _ h))))) (by decide +kernel))) (goodIn_sub (fun _ h => List.mem_cons_of_mem _ (List.mem_append_right _ h)) (by decide +kernel))
set_option maxRecDepth 20000 in
theorem gL_pass_X4_pass : GoodIn wsL_pass (wsV RL 70 RX4 yX4_pass wsX4_pass) := goodIn_app (goodIn_of _ (by decide +kernel)) ggL_pass_X4_pass
theorem dL_pass_0 : decode cL_pass 0 = .ok (.aload_n 2, 1) := by decide +kernel
theorem dL_pass_1 : decode cL_pass 1 = .ok (.iconst 0, 1) := by decide +kernel
theorem dL_pass_2 : decode cL_pass 2 = .ok (.aload_n 0, 1) := by decide +kernel
theorem dL_pass_3 : decode cL_pass 3 = .ok (.iload_n 1, 1) := by decide +kernel
theorem dL_pass_4 : decode cL_pass 4 = .ok (.invokevirtual 70, 3) := by decide +kernel
theorem dL_pass_7 : decode cL_pass 7 = .ok (.i2l, 1) := by decide +kernel
theorem dL_pass_8 : decode cL_pass 8 = .ok (.lastore, 1) := by decide +kernel
theorem dL_pass_9 : decode cL_pass 9 = .ok (.goto 9, 3) := by decide +kernel
theorem dL_pass_12 : decode cL_pass 12 = .ok (.astore_n 3, 1) := by decide +kernel
theorem dL_pass_13 : decode cL_pass 13 = .ok (.iconst 1, 1) := by decide +kernel
theorem dL_pass_14 : decode cL_pass 14 = .ok (.ireturn, 1) := by decide +kernel
theorem dL_pass_15 : decode cL_pass 15 = .ok (.astore_n 3, 1) := by decide +kernel
theorem dL_pass_16 : decode cL_pass 16 = .ok (.iconst 2, 1) := by decide +kernel
theorem dL_pass_17 : decode cL_pass 17 = .ok (.ireturn, 1) := by decide +kernel
theorem dL_pass_18 : decode cL_pass 18 = .ok (.iconst 0, 1) := by decide +kernel
theorem dL_pass_19 : decode cL_pass 19 = .ok (.ireturn, 1) := by decide +kernel
set_option maxRecDepth 20000 in
theorem ggL_made_X4_made : GoodIn wsL_made wsX4_made := goodIn_ca (goodIn_ca (goodIn_r _ [6, 7, 8, 9, 10, 11, 12, 13, 14, 15, 16, 17, 18, 19, 20, 21, 22, 23, 24, 25, 26, 27, 28, 29, 30, 31, 32, 33, 34, 35, 36, 37, 38, 39, 40] (by decide +kernel) (by decide +kernel)) (goodIn_sub (fun _ h => List.mem_cons_of_mem _ (List.mem_append_right _ h)) (by decide +kernel))) (goodIn_sub (fun _ h => List.mem_cons_of_mem _ (List.mem_append_left _ (List.mem_append_right _ h))) (by decide +kernel))
set_option maxRecDepth 20000 in
theorem gL_made_X4_made : GoodIn wsL_made (wsV RL 73 RX4 yX4_made wsX4_made) := goodIn_app (goodIn_of _ (by decide +kernel)) ggL_made_X4_made
theorem dL_made_0 : decode cL_made 0 = .ok (.aload_n 2, 1) := by decide +kernel
theorem dL_made_1 : decode cL_made 1 = .ok (.iconst 0, 1) := by decide +kernel
theorem dL_made_2 : decode cL_made 2 = .ok (.aload_n 0, 1) := by decide +kernel
theorem dL_made_3 : decode cL_made 3 = .ok (.iload_n 1, 1) := by decide +kernel
theorem dL_made_4 : decode cL_made 4 = .ok (.invokevirtual 73, 3) := by decide +kernel
theorem dL_made_7 : decode cL_made 7 = .ok (.i2l, 1) := by decide +kernel
theorem dL_made_8 : decode cL_made 8 = .ok (.lastore, 1) := by decide +kernel
theorem dL_made_9 : decode cL_made 9 = .ok (.goto 6, 3) := by decide +kernel
theorem dL_made_12 : decode cL_made 12 = .ok (.astore_n 3, 1) := by decide +kernel
theorem dL_made_13 : decode cL_made 13 = .ok (.iconst 1, 1) := by decide +kernel
theorem dL_made_14 : decode cL_made 14 = .ok (.ireturn, 1) := by decide +kernel
theorem dL_made_15 : decode cL_made 15 = .ok (.iconst 0, 1) := by decide +kernel
theorem dL_made_16 : decode cL_made 16 = .ok (.ireturn, 1) := by decide +kernel
set_option maxRecDepth 20000 in
theorem ggL_paperShare_X4_paperShare : GoodIn wsL_paperShare wsX4_paperShare := goodIn_ca (goodIn_r _ [6, 7, 8, 9, 10, 11, 12, 13, 14, 15, 16, 17, 18, 19, 20, 21, 22, 23, 24, 25, 26, 27, 28, 29, 30, 31, 32, 33, 34, 35] (by decide +kernel) (by decide +kernel)) (goodIn_sub (fun _ h => List.mem_cons_of_mem _ (List.mem_append_right _ h)) (by decide +kernel))
set_option maxRecDepth 20000 in
theorem gL_paperShare_X4_paperShare : GoodIn wsL_paperShare (wsV RL 77 RX4 yX4_paperShare wsX4_paperShare) := goodIn_app (goodIn_of _ (by decide +kernel)) ggL_paperShare_X4_paperShare
theorem dL_paperShare_0 : decode cL_paperShare 0 = .ok (.aload_n 1, 1) := by decide +kernel
theorem dL_paperShare_1 : decode cL_paperShare 1 = .ok (.iconst 0, 1) := by decide +kernel
theorem dL_paperShare_2 : decode cL_paperShare 2 = .ok (.aload_n 0, 1) := by decide +kernel
theorem dL_paperShare_3 : decode cL_paperShare 3 = .ok (.invokevirtual 77, 3) := by decide +kernel
theorem dL_paperShare_6 : decode cL_paperShare 6 = .ok (.f2d, 1) := by decide +kernel
theorem dL_paperShare_7 : decode cL_paperShare 7 = .ok (.dastore, 1) := by decide +kernel
theorem dL_paperShare_8 : decode cL_paperShare 8 = .ok (.goto 6, 3) := by decide +kernel
theorem dL_paperShare_11 : decode cL_paperShare 11 = .ok (.astore_n 2, 1) := by decide +kernel
theorem dL_paperShare_12 : decode cL_paperShare 12 = .ok (.iconst 1, 1) := by decide +kernel
theorem dL_paperShare_13 : decode cL_paperShare 13 = .ok (.ireturn, 1) := by decide +kernel
theorem dL_paperShare_14 : decode cL_paperShare 14 = .ok (.iconst 0, 1) := by decide +kernel
theorem dL_paperShare_15 : decode cL_paperShare 15 = .ok (.ireturn, 1) := by decide +kernel
set_option maxRecDepth 20000 in
theorem ggL_meanTrim_X4_meanTrim : GoodIn wsL_meanTrim wsX4_meanTrim := goodIn_ca (goodIn_r _ [6, 7, 8, 9, 10, 11, 12, 13, 14, 15, 16, 17, 18, 19, 20, 21, 22, 23, 24, 25, 26, 27, 28, 29, 30, 31, 32, 33, 34, 35] (by decide +kernel) (by decide +kernel)) (goodIn_sub (fun _ h => List.mem_cons_of_mem _ (List.mem_append_right _ h)) (by decide +kernel))
set_option maxRecDepth 20000 in
theorem gL_meanTrim_X4_meanTrim : GoodIn wsL_meanTrim (wsV RL 83 RX4 yX4_meanTrim wsX4_meanTrim) := goodIn_app (goodIn_of _ (by decide +kernel)) ggL_meanTrim_X4_meanTrim
theorem dL_meanTrim_0 : decode cL_meanTrim 0 = .ok (.aload_n 1, 1) := by decide +kernel
theorem dL_meanTrim_1 : decode cL_meanTrim 1 = .ok (.iconst 0, 1) := by decide +kernel
theorem dL_meanTrim_2 : decode cL_meanTrim 2 = .ok (.aload_n 0, 1) := by decide +kernel
theorem dL_meanTrim_3 : decode cL_meanTrim 3 = .ok (.invokevirtual 83, 3) := by decide +kernel
theorem dL_meanTrim_6 : decode cL_meanTrim 6 = .ok (.dastore, 1) := by decide +kernel
theorem dL_meanTrim_7 : decode cL_meanTrim 7 = .ok (.goto 6, 3) := by decide +kernel
theorem dL_meanTrim_10 : decode cL_meanTrim 10 = .ok (.astore_n 2, 1) := by decide +kernel
theorem dL_meanTrim_11 : decode cL_meanTrim 11 = .ok (.iconst 1, 1) := by decide +kernel
theorem dL_meanTrim_12 : decode cL_meanTrim 12 = .ok (.ireturn, 1) := by decide +kernel
theorem dL_meanTrim_13 : decode cL_meanTrim 13 = .ok (.iconst 0, 1) := by decide +kernel
theorem dL_meanTrim_14 : decode cL_meanTrim 14 = .ok (.ireturn, 1) := by decide +kernel
set_option maxRecDepth 20000 in
theorem ggL_law_X4_init : GoodIn wsL_law wsX4_init := goodIn_r _ [10, 11, 12, 13, 14, 15, 16, 17, 18, 19, 20, 21, 22, 23, 24, 25, 26, 27, 28, 29, 30, 31, 32, 33, 34, 35, 36, 37, 38, 39, 40, 41, 42, 43, 44, 45, 46, 47, 48, 49, 50, 51, 52, 53, 54, 55, 56, 57, 58, 59, 60, 61, 62, 63, 64, 65, 622, 623, 624, 625, 626, 627, 628, 629, 630, 631, 632, 633, 634, 664, 665, 666, 667, 668, 669, 670, 671, 672, 673, 674, 675, 676, 677, 678, 679, 680, 681, 682, 683, 684, 685, 686, 687, 688, 689, 690] (by decide +kernel) (by decide +kernel)
set_option maxRecDepth 20000 in
theorem gL_law_X4_init : GoodIn wsL_law (wsX4_init) := ggL_law_X4_init
set_option maxRecDepth 20000 in
theorem ggL_law_X5_init : GoodIn wsL_law wsX5_init := goodIn_r _ [68, 69, 12, 13, 14, 70, 71, 72, 73, 74, 75, 76, 77, 78, 79, 80, 81, 61, 82, 83, 84, 635, 636, 637, 638, 639, 640, 641, 642, 643, 644, 645, 646, 647, 648, 649, 650, 651, 652, 653, 654, 655, 656, 657, 658, 659, 660, 661, 662, 663] (by decide +kernel) (by decide +kernel)
set_option maxRecDepth 20000 in
theorem gL_law_X5_init : GoodIn wsL_law (wsX5_init) := ggL_law_X5_init
set_option maxRecDepth 20000 in
theorem ggL_law_L_addGrade : GoodIn wsL_law wsL_addGrade := goodIn_ca (goodIn_ca (goodIn_ca (goodIn_r _ [88, 89, 90, 91, 92, 93, 2, 94, 95, 96, 97, 98, 99, 15, 100, 101, 102, 103, 104, 105, 106, 622, 623, 624, 625, 626, 627, 628, 629, 630, 631, 632, 633, 634] (by decide +kernel) (by decide +kernel)) (goodIn_sub (fun _ h => List.mem_append_left _ (List.mem_append_left _ (List.mem_append_left _ (List.mem_append_left _ (List.mem_append_left _ (List.mem_append_left _ (List.mem_append_left _ (List.mem_append_right _ h)))))))) (by decide +kernel))) (goodIn_sub (fun _ h => List.mem_append_left _ (List.mem_append_left _ (List.mem_append_left _ (List.mem_append_left _ (List.mem_append_left _ (List.mem_append_left _ (List.mem_append_right _ h))))))) (by decide +kernel))) (goodIn_sub (fun _ h => List.mem_append_left _ (List.mem_append_left _ (List.mem_append_left _ (List.mem_append_left _ (List.mem_append_left _ (List.mem_append_right _ h)))))) (by decide +kernel))
set_option maxRecDepth 20000 in
theorem gL_law_L_addGrade : GoodIn wsL_law (va_wsS RL 91 yL_addGrade wsL_addGrade) := goodIn_app (goodIn_of _ (by decide +kernel)) ggL_law_L_addGrade
set_option maxRecDepth 20000 in
theorem ggL_law_X5_addGrade : GoodIn wsL_law wsX5_addGrade := goodIn_ca (goodIn_r _ [110, 111, 70, 112, 113, 5, 114, 115, 116, 117, 118, 119, 120, 121, 122, 123, 635, 636, 637, 638, 639, 640, 641, 642, 643, 644, 645, 646, 647, 648, 649, 650, 651, 652, 653, 654, 655, 656, 657, 658, 659, 660, 661, 662, 663] (by decide +kernel) (by decide +kernel)) (goodIn_sub (fun _ h => List.mem_append_left _ (List.mem_append_left _ (List.mem_append_left _ (List.mem_append_left _ (List.mem_append_left _ (List.mem_append_left _ (List.mem_append_left _ (List.mem_append_right _ h)))))))) (by decide +kernel))
set_option maxRecDepth 20000 in
theorem gL_law_X5_addGrade : GoodIn wsL_law (wsV RL 96 RX5 yX5_addGrade wsX5_addGrade) := goodIn_app (goodIn_of _ (by decide +kernel)) ggL_law_X5_addGrade
set_option maxRecDepth 20000 in
theorem ggL_law_X5_thrown : GoodIn wsL_law wsX5_thrown := goodIn_r _ [127, 123, 635, 636, 637, 638, 639, 640, 641, 642, 643, 644, 645, 646, 647, 648, 649, 650, 651, 652, 653, 654, 655, 656, 657, 658, 659, 660, 661, 662, 663] (by decide +kernel) (by decide +kernel)
set_option maxRecDepth 20000 in
theorem gL_law_X5_thrown : GoodIn wsL_law (wsV RL 97 RX5 yX5_thrown wsX5_thrown) := goodIn_app (goodIn_of _ (by decide +kernel)) ggL_law_X5_thrown
set_option maxRecDepth 20000 in
theorem ggL_law_L_setWidth : GoodIn wsL_law wsL_setWidth := goodIn_ca (goodIn_ca (goodIn_ca (goodIn_r _ [130, 89, 90, 131, 132, 133, 2, 134, 95, 96, 97, 98, 22, 16, 100, 101, 102, 135, 136, 137, 21, 138, 139, 42, 40, 140, 141, 142, 143, 622, 623, 624, 625, 626, 627, 628, 629, 630, 631, 632, 633, 634, 664, 665, 666, 667, 668] (by decide +kernel) (by decide +kernel)) (goodIn_sub (fun _ h => List.mem_append_left _ (List.mem_append_left _ (List.mem_append_left _ (List.mem_append_left _ (List.mem_append_left _ (List.mem_append_left _ (List.mem_append_left _ (List.mem_append_right _ h)))))))) (by decide +kernel))) (goodIn_sub (fun _ h => List.mem_append_left _ (List.mem_append_left _ (List.mem_append_left _ (List.mem_append_left _ (List.mem_append_left _ (List.mem_append_left _ (List.mem_append_right _ h))))))) (by decide +kernel))) (goodIn_sub (fun _ h => List.mem_append_left _ (List.mem_append_left _ (List.mem_append_left _ (List.mem_append_left _ (List.mem_append_left _ (List.mem_append_right _ h)))))) (by decide +kernel))
set_option maxRecDepth 20000 in
theorem gL_law_L_setWidth : GoodIn wsL_law (va_wsS RL 100 yL_setWidth wsL_setWidth) := goodIn_app (goodIn_of _ (by decide +kernel)) ggL_law_L_setWidth
set_option maxRecDepth 20000 in
theorem ggL_law_X5_setWidth : GoodIn wsL_law wsX5_setWidth := goodIn_ca (goodIn_r _ [147, 148, 76, 75, 71, 112, 113, 5, 114, 119, 120, 121, 122, 123, 635, 636, 637, 638, 639, 640, 641, 642, 643, 644, 645, 646, 647, 648, 649, 650, 651, 652, 653, 654, 655, 656, 657, 658, 659, 660, 661, 662, 663] (by decide +kernel) (by decide +kernel)) (goodIn_sub (fun _ h => List.mem_append_left _ (List.mem_append_left _ (List.mem_append_left _ (List.mem_append_left _ (List.mem_append_left _ (List.mem_append_left _ (List.mem_append_left _ (List.mem_append_right _ h)))))))) (by decide +kernel))
set_option maxRecDepth 20000 in
theorem gL_law_X5_setWidth : GoodIn wsL_law (wsV RL 102 RX5 yX5_setWidth wsX5_setWidth) := goodIn_app (goodIn_of _ (by decide +kernel)) ggL_law_X5_setWidth
set_option maxRecDepth 20000 in
theorem ggL_law_L_change : GoodIn wsL_law wsL_change := goodIn_ca (goodIn_ca (goodIn_ca (goodIn_ca (goodIn_r _ [151, 152, 89, 90, 153, 154, 155, 2, 156, 157, 158, 95, 96, 97, 98, 17, 159, 15, 160, 161, 142, 162, 18, 163, 164, 165, 166, 99, 622, 623, 624, 625, 626, 627, 628, 629, 630, 631, 632, 633, 634] (by decide +kernel) (by decide +kernel)) (goodIn_sub (fun _ h => List.mem_append_left _ (List.mem_append_left _ (List.mem_append_left _ (List.mem_append_left _ (List.mem_append_left _ (List.mem_append_left _ (List.mem_append_left _ (List.mem_append_right _ h)))))))) (by decide +kernel))) (goodIn_sub (fun _ h => List.mem_append_left _ (List.mem_append_left _ (List.mem_append_left _ (List.mem_append_left _ (List.mem_append_right _ h))))) (by decide +kernel))) (goodIn_sub (fun _ h => List.mem_append_left _ (List.mem_append_left _ (List.mem_append_left _ (List.mem_append_left _ (List.mem_append_left _ (List.mem_append_left _ (List.mem_append_right _ h))))))) (by decide +kernel))) (goodIn_sub (fun _ h => List.mem_append_left _ (List.mem_append_left _ (List.mem_append_left _ (List.mem_append_left _ (List.mem_append_left _ (List.mem_append_right _ h)))))) (by decide +kernel))
set_option maxRecDepth 20000 in
theorem gL_law_L_change : GoodIn wsL_law (va_wsS RL 103 yL_change wsL_change) := goodIn_app (goodIn_of _ (by decide +kernel)) ggL_law_L_change
set_option maxRecDepth 20000 in
theorem ggL_law_X5_change : GoodIn wsL_law wsX5_change := goodIn_ca (goodIn_r _ [170, 72, 171, 70, 73, 172, 173, 174, 5, 175, 111, 112, 113, 114, 119, 120, 121, 122, 123, 635, 636, 637, 638, 639, 640, 641, 642, 643, 644, 645, 646, 647, 648, 649, 650, 651, 652, 653, 654, 655, 656, 657, 658, 659, 660, 661, 662, 663] (by decide +kernel) (by decide +kernel)) (goodIn_sub (fun _ h => List.mem_append_left _ (List.mem_append_left _ (List.mem_append_left _ (List.mem_append_left _ (List.mem_append_left _ (List.mem_append_left _ (List.mem_append_left _ (List.mem_append_right _ h)))))))) (by decide +kernel))
set_option maxRecDepth 20000 in
theorem gL_law_X5_change : GoodIn wsL_law (wsV RL 105 RX5 yX5_change wsX5_change) := goodIn_app (goodIn_of _ (by decide +kernel)) ggL_law_X5_change
set_option maxRecDepth 20000 in
theorem ggL_law_L_grade : GoodIn wsL_law wsL_grade := goodIn_ca (goodIn_ca (goodIn_r _ [178, 179, 180, 181, 182, 2, 183, 184, 185, 17, 163, 164, 165, 166, 99, 622, 623, 624, 625, 626, 627, 628, 629, 630, 631, 632, 633, 634] (by decide +kernel) (by decide +kernel)) (goodIn_sub (fun _ h => List.mem_append_left _ (List.mem_append_left _ (List.mem_append_left _ (List.mem_append_left _ (List.mem_append_left _ (List.mem_append_left _ (List.mem_append_left _ (List.mem_append_right _ h)))))))) (by decide +kernel))) (goodIn_sub (fun _ h => List.mem_append_left _ (List.mem_append_left _ (List.mem_append_left _ (List.mem_append_right _ h)))) (by decide +kernel))
set_option maxRecDepth 20000 in
theorem gL_law_L_grade : GoodIn wsL_law (va_wsS RL 106 yL_grade wsL_grade) := goodIn_app (goodIn_of _ (by decide +kernel)) ggL_law_L_grade
set_option maxRecDepth 20000 in
theorem ggL_law_X5_grade : GoodIn wsL_law wsX5_grade := goodIn_r _ [189, 72, 119, 120, 121, 5, 122, 123, 635, 636, 637, 638, 639, 640, 641, 642, 643, 644, 645, 646, 647, 648, 649, 650, 651, 652, 653, 654, 655, 656, 657, 658, 659, 660, 661, 662, 663] (by decide +kernel) (by decide +kernel)
set_option maxRecDepth 20000 in
theorem gL_law_X5_grade : GoodIn wsL_law (wsV RL 109 RX5 yX5_grade wsX5_grade) := goodIn_app (goodIn_of _ (by decide +kernel)) ggL_law_X5_grade
set_option maxRecDepth 20000 in
theorem ggL_law_X4_changing : GoodIn wsL_law wsX4_changing := goodIn_r _ [193, 159, 622, 623, 624, 625, 626, 627, 628, 629, 630, 631, 632, 633, 634] (by decide +kernel) (by decide +kernel)
set_option maxRecDepth 20000 in
theorem gL_law_X4_changing : GoodIn wsL_law (wsV RL 110 RX4 yX4_changing wsX4_changing) := goodIn_app (goodIn_of _ (by decide +kernel)) ggL_law_X4_changing
set_option maxRecDepth 20000 in
theorem ggL_law_X5_changing : GoodIn wsL_law wsX5_changing := goodIn_r _ [197, 123, 171, 635, 636, 637, 638, 639, 640, 641, 642, 643, 644, 645, 646, 647, 648, 649, 650, 651, 652, 653, 654, 655, 656, 657, 658, 659, 660, 661, 662, 663] (by decide +kernel) (by decide +kernel)
set_option maxRecDepth 20000 in
theorem gL_law_X5_changing : GoodIn wsL_law (wsV RL 113 RX5 yX5_changing wsX5_changing) := goodIn_app (goodIn_of _ (by decide +kernel)) ggL_law_X5_changing
set_option maxRecDepth 20000 in
theorem ggL_law_L_next : GoodIn wsL_law wsL_next := goodIn_ca (goodIn_ca (goodIn_r _ [200, 179, 201, 202, 203, 2, 204, 184, 185, 17, 15, 18, 163, 164, 165, 166, 99, 205, 206, 207, 208, 22, 209, 210, 211, 21, 212, 139, 39, 42, 622, 623, 624, 625, 626, 627, 628, 629, 630, 631, 632, 633, 634, 664, 665, 666, 667, 668] (by decide +kernel) (by decide +kernel)) (goodIn_sub (fun _ h => List.mem_append_left _ (List.mem_append_left _ (List.mem_append_left _ (List.mem_append_left _ (List.mem_append_left _ (List.mem_append_left _ (List.mem_append_left _ (List.mem_append_right _ h)))))))) (by decide +kernel))) (goodIn_sub (fun _ h => List.mem_append_left _ (List.mem_append_left _ (List.mem_append_left _ (List.mem_append_right _ h)))) (by decide +kernel))
set_option maxRecDepth 20000 in
theorem gL_law_L_next : GoodIn wsL_law (va_wsS RL 114 yL_next wsL_next) := goodIn_app (goodIn_of _ (by decide +kernel)) ggL_law_L_next
set_option maxRecDepth 20000 in
theorem ggL_law_X5_next : GoodIn wsL_law wsX5_next := goodIn_ca (goodIn_r _ [216, 72, 70, 73, 217, 218, 219, 5, 220, 111, 221, 222, 223, 224, 148, 74, 76, 119, 120, 121, 122, 123, 635, 636, 637, 638, 639, 640, 641, 642, 643, 644, 645, 646, 647, 648, 649, 650, 651, 652, 653, 654, 655, 656, 657, 658, 659, 660, 661, 662, 663] (by decide +kernel) (by decide +kernel)) (goodIn_sub (fun _ h => List.mem_append_left _ (List.mem_append_left _ (List.mem_append_left _ (List.mem_append_left _ (List.mem_append_left _ (List.mem_append_left _ (List.mem_append_left _ (List.mem_append_right _ h)))))))) (by decide +kernel))
set_option maxRecDepth 20000 in
theorem gL_law_X5_next : GoodIn wsL_law (wsV RL 116 RX5 yX5_next wsX5_next) := goodIn_app (goodIn_of _ (by decide +kernel)) ggL_law_X5_next
set_option maxRecDepth 20000 in
theorem ggL_law_L_mass : GoodIn wsL_law wsL_mass := goodIn_ca (goodIn_ca (goodIn_r _ [227, 152, 228, 229, 230, 2, 231, 157, 158, 163, 164, 165, 166, 99, 232, 233, 234, 235, 15, 16, 622, 623, 624, 625, 626, 627, 628, 629, 630, 631, 632, 633, 634] (by decide +kernel) (by decide +kernel)) (goodIn_sub (fun _ h => List.mem_append_left _ (List.mem_append_left _ (List.mem_append_left _ (List.mem_append_left _ (List.mem_append_left _ (List.mem_append_left _ (List.mem_append_left _ (List.mem_append_right _ h)))))))) (by decide +kernel))) (goodIn_sub (fun _ h => List.mem_append_left _ (List.mem_append_left _ (List.mem_append_left _ (List.mem_append_left _ (List.mem_append_right _ h))))) (by decide +kernel))
set_option maxRecDepth 20000 in
theorem gL_law_L_mass : GoodIn wsL_law (va_wsS RL 117 yL_mass wsL_mass) := goodIn_app (goodIn_of _ (by decide +kernel)) ggL_law_L_mass
set_option maxRecDepth 20000 in
theorem ggL_law_X5_mass : GoodIn wsL_law wsX5_mass := goodIn_ca (goodIn_r _ [239, 172, 173, 174, 5, 175, 111, 112, 113, 114, 119, 120, 121, 122, 123, 240, 241, 242, 243, 70, 71, 635, 636, 637, 638, 639, 640, 641, 642, 643, 644, 645, 646, 647, 648, 649, 650, 651, 652, 653, 654, 655, 656, 657, 658, 659, 660, 661, 662, 663] (by decide +kernel) (by decide +kernel)) (goodIn_sub (fun _ h => List.mem_append_left _ (List.mem_append_left _ (List.mem_append_left _ (List.mem_append_left _ (List.mem_append_left _ (List.mem_append_left _ (List.mem_append_left _ (List.mem_append_right _ h)))))))) (by decide +kernel))
set_option maxRecDepth 20000 in
theorem gL_law_X5_mass : GoodIn wsL_law (wsV RL 119 RX5 yX5_mass wsX5_mass) := goodIn_app (goodIn_of _ (by decide +kernel)) ggL_law_X5_mass
set_option maxRecDepth 20000 in
theorem ggL_law_L_order : GoodIn wsL_law wsL_order := goodIn_ca (goodIn_ca (goodIn_ca (goodIn_ca (goodIn_ca (goodIn_r _ [246, 152, 89, 247, 90, 248, 249, 250, 2, 251, 157, 158, 95, 96, 252, 253, 97, 98, 16, 22, 163, 164, 165, 166, 99, 100, 101, 102, 254, 255, 256, 21, 257, 139, 258, 259, 260, 261, 39, 40, 41, 42, 262, 622, 623, 624, 625, 626, 627, 628, 629, 630, 631, 632, 633, 634, 664, 665, 666, 667, 668] (by decide +kernel) (by decide +kernel)) (goodIn_sub (fun _ h => List.mem_append_left _ (List.mem_append_left _ (List.mem_append_left _ (List.mem_append_left _ (List.mem_append_left _ (List.mem_append_left _ (List.mem_append_left _ (List.mem_append_right _ h)))))))) (by decide +kernel))) (goodIn_sub (fun _ h => List.mem_append_left _ (List.mem_append_left _ (List.mem_append_left _ (List.mem_append_left _ (List.mem_append_right _ h))))) (by decide +kernel))) (goodIn_sub (fun _ h => List.mem_append_left _ (List.mem_append_left _ (List.mem_append_left _ (List.mem_append_left _ (List.mem_append_left _ (List.mem_append_left _ (List.mem_append_right _ h))))))) (by decide +kernel))) (goodIn_sub (fun _ h => List.mem_append_left _ (List.mem_append_left _ (List.mem_append_right _ h))) (by decide +kernel))) (goodIn_sub (fun _ h => List.mem_append_left _ (List.mem_append_left _ (List.mem_append_left _ (List.mem_append_left _ (List.mem_append_left _ (List.mem_append_right _ h)))))) (by decide +kernel))
set_option maxRecDepth 20000 in
theorem gL_law_L_order : GoodIn wsL_law (va_wsS RL 120 yL_order wsL_order) := goodIn_app (goodIn_of _ (by decide +kernel)) ggL_law_L_order
set_option maxRecDepth 20000 in
theorem ggL_law_X5_order : GoodIn wsL_law wsX5_order := goodIn_ca (goodIn_r _ [266, 71, 148, 74, 75, 76, 172, 173, 174, 5, 175, 111, 112, 113, 114, 119, 120, 121, 122, 123, 635, 636, 637, 638, 639, 640, 641, 642, 643, 644, 645, 646, 647, 648, 649, 650, 651, 652, 653, 654, 655, 656, 657, 658, 659, 660, 661, 662, 663] (by decide +kernel) (by decide +kernel)) (goodIn_sub (fun _ h => List.mem_append_left _ (List.mem_append_left _ (List.mem_append_left _ (List.mem_append_left _ (List.mem_append_left _ (List.mem_append_left _ (List.mem_append_left _ (List.mem_append_right _ h)))))))) (by decide +kernel))
set_option maxRecDepth 20000 in
theorem gL_law_X5_order : GoodIn wsL_law (wsV RL 123 RX5 yX5_order wsX5_order) := goodIn_app (goodIn_of _ (by decide +kernel)) ggL_law_X5_order
set_option maxRecDepth 20000 in
theorem ggL_law_L_cancel : GoodIn wsL_law wsL_cancel := goodIn_ca (goodIn_ca (goodIn_ca (goodIn_r _ [269, 152, 90, 270, 271, 272, 2, 273, 157, 158, 97, 98, 22, 274, 275, 276, 277, 21, 278, 139, 622, 623, 624, 625, 626, 627, 628, 629, 630, 631, 632, 633, 634, 664, 665, 666, 667, 668] (by decide +kernel) (by decide +kernel)) (goodIn_sub (fun _ h => List.mem_append_left _ (List.mem_append_left _ (List.mem_append_left _ (List.mem_append_left _ (List.mem_append_left _ (List.mem_append_left _ (List.mem_append_left _ (List.mem_append_right _ h)))))))) (by decide +kernel))) (goodIn_sub (fun _ h => List.mem_append_left _ (List.mem_append_left _ (List.mem_append_left _ (List.mem_append_left _ (List.mem_append_right _ h))))) (by decide +kernel))) (goodIn_sub (fun _ h => List.mem_append_left _ (List.mem_append_left _ (List.mem_append_left _ (List.mem_append_left _ (List.mem_append_left _ (List.mem_append_right _ h)))))) (by decide +kernel))
set_option maxRecDepth 20000 in
theorem gL_law_L_cancel : GoodIn wsL_law (va_wsS RL 124 yL_cancel wsL_cancel) := goodIn_app (goodIn_of _ (by decide +kernel)) ggL_law_L_cancel
set_option maxRecDepth 20000 in
theorem ggL_law_X5_cancel : GoodIn wsL_law wsX5_cancel := goodIn_ca (goodIn_r _ [282, 76, 283, 284, 285, 5, 286, 148, 112, 113, 114, 119, 120, 121, 122, 123, 635, 636, 637, 638, 639, 640, 641, 642, 643, 644, 645, 646, 647, 648, 649, 650, 651, 652, 653, 654, 655, 656, 657, 658, 659, 660, 661, 662, 663] (by decide +kernel) (by decide +kernel)) (goodIn_sub (fun _ h => List.mem_append_left _ (List.mem_append_left _ (List.mem_append_left _ (List.mem_append_left _ (List.mem_append_left _ (List.mem_append_left _ (List.mem_append_left _ (List.mem_append_right _ h)))))))) (by decide +kernel))
set_option maxRecDepth 20000 in
theorem gL_law_X5_cancel : GoodIn wsL_law (wsV RL 126 RX5 yX5_cancel wsX5_cancel) := goodIn_app (goodIn_of _ (by decide +kernel)) ggL_law_X5_cancel
set_option maxRecDepth 20000 in
theorem ggL_law_L_cut : GoodIn wsL_law wsL_cut := goodIn_ca (goodIn_ca (goodIn_r _ [289, 152, 290, 291, 292, 2, 293, 157, 158, 22, 294, 275, 276, 277, 21, 278, 139, 622, 623, 624, 625, 626, 627, 628, 629, 630, 631, 632, 633, 634, 664, 665, 666, 667, 668] (by decide +kernel) (by decide +kernel)) (goodIn_sub (fun _ h => List.mem_append_left _ (List.mem_append_left _ (List.mem_append_left _ (List.mem_append_left _ (List.mem_append_left _ (List.mem_append_left _ (List.mem_append_left _ (List.mem_append_right _ h)))))))) (by decide +kernel))) (goodIn_sub (fun _ h => List.mem_append_left _ (List.mem_append_left _ (List.mem_append_left _ (List.mem_append_left _ (List.mem_append_right _ h))))) (by decide +kernel))
set_option maxRecDepth 20000 in
theorem gL_law_L_cut : GoodIn wsL_law (va_wsS RL 127 yL_cut wsL_cut) := goodIn_app (goodIn_of _ (by decide +kernel)) ggL_law_L_cut
set_option maxRecDepth 20000 in
theorem ggL_law_X5_cut : GoodIn wsL_law wsX5_cut := goodIn_ca (goodIn_r _ [298, 77, 283, 284, 285, 5, 286, 148, 112, 113, 114, 119, 120, 121, 122, 123, 635, 636, 637, 638, 639, 640, 641, 642, 643, 644, 645, 646, 647, 648, 649, 650, 651, 652, 653, 654, 655, 656, 657, 658, 659, 660, 661, 662, 663] (by decide +kernel) (by decide +kernel)) (goodIn_sub (fun _ h => List.mem_append_left _ (List.mem_append_left _ (List.mem_append_left _ (List.mem_append_left _ (List.mem_append_left _ (List.mem_append_left _ (List.mem_append_left _ (List.mem_append_right _ h)))))))) (by decide +kernel))
set_option maxRecDepth 20000 in
theorem gL_law_X5_cut : GoodIn wsL_law (wsV RL 129 RX5 yX5_cut wsX5_cut) := goodIn_app (goodIn_of _ (by decide +kernel)) ggL_law_X5_cut
set_option maxRecDepth 20000 in
theorem ggL_law_L_lacks : GoodIn wsL_law wsL_lacks := goodIn_ca (goodIn_ca (goodIn_r _ [301, 152, 302, 303, 304, 2, 305, 157, 158, 22, 274, 275, 276, 277, 21, 278, 139, 622, 623, 624, 625, 626, 627, 628, 629, 630, 631, 632, 633, 634, 664, 665, 666, 667, 668] (by decide +kernel) (by decide +kernel)) (goodIn_sub (fun _ h => List.mem_append_left _ (List.mem_append_left _ (List.mem_append_left _ (List.mem_append_left _ (List.mem_append_left _ (List.mem_append_left _ (List.mem_append_left _ (List.mem_append_right _ h)))))))) (by decide +kernel))) (goodIn_sub (fun _ h => List.mem_append_left _ (List.mem_append_left _ (List.mem_append_left _ (List.mem_append_left _ (List.mem_append_right _ h))))) (by decide +kernel))
set_option maxRecDepth 20000 in
theorem gL_law_L_lacks : GoodIn wsL_law (va_wsS RL 130 yL_lacks wsL_lacks) := goodIn_app (goodIn_of _ (by decide +kernel)) ggL_law_L_lacks
set_option maxRecDepth 20000 in
theorem ggL_law_X5_lacks : GoodIn wsL_law wsX5_lacks := goodIn_ca (goodIn_r _ [309, 76, 283, 284, 285, 5, 286, 148, 112, 113, 114, 119, 120, 121, 122, 123, 635, 636, 637, 638, 639, 640, 641, 642, 643, 644, 645, 646, 647, 648, 649, 650, 651, 652, 653, 654, 655, 656, 657, 658, 659, 660, 661, 662, 663] (by decide +kernel) (by decide +kernel)) (goodIn_sub (fun _ h => List.mem_append_left _ (List.mem_append_left _ (List.mem_append_left _ (List.mem_append_left _ (List.mem_append_left _ (List.mem_append_left _ (List.mem_append_left _ (List.mem_append_right _ h)))))))) (by decide +kernel))
set_option maxRecDepth 20000 in
theorem gL_law_X5_lacks : GoodIn wsL_law (wsV RL 132 RX5 yX5_lacks wsX5_lacks) := goodIn_app (goodIn_of _ (by decide +kernel)) ggL_law_X5_lacks
set_option maxRecDepth 20000 in
theorem ggL_law_L_trim : GoodIn wsL_law wsL_trim := goodIn_ca (goodIn_ca (goodIn_r _ [312, 152, 313, 314, 315, 2, 316, 157, 158, 26, 22, 16, 163, 164, 165, 166, 99, 317, 318, 319, 25, 320, 321, 322, 142, 323, 324, 141, 143, 325, 326, 48, 327, 49, 328, 50, 329, 276, 277, 21, 278, 139, 330, 331, 332, 333, 334, 46, 335, 336, 337, 338, 339, 340, 341, 47, 342, 343, 344, 345, 346, 347, 348, 349, 622, 623, 624, 625, 626, 627, 628, 629, 630, 631, 632, 633, 634, 669, 670, 671, 672, 673, 674, 675, 676, 664, 665, 666, 667, 668] (by decide +kernel) (by decide +kernel)) (goodIn_sub (fun _ h => List.mem_append_left _ (List.mem_append_left _ (List.mem_append_left _ (List.mem_append_left _ (List.mem_append_left _ (List.mem_append_left _ (List.mem_append_left _ (List.mem_append_right _ h)))))))) (by decide +kernel))) (goodIn_sub (fun _ h => List.mem_append_left _ (List.mem_append_left _ (List.mem_append_left _ (List.mem_append_left _ (List.mem_append_right _ h))))) (by decide +kernel))
set_option maxRecDepth 20000 in
theorem gL_law_L_trim : GoodIn wsL_law (va_wsS RL 133 yL_trim wsL_trim) := goodIn_app (goodIn_of _ (by decide +kernel)) ggL_law_L_trim
set_option maxRecDepth 20000 in
theorem ggL_law_X5_trim : GoodIn wsL_law wsX5_trim := goodIn_ca (goodIn_ca (goodIn_r _ [353, 71, 172, 173, 174, 5, 175, 111, 112, 113, 114, 119, 120, 121, 122, 123, 354, 355, 356, 357, 358, 359, 360, 361, 362, 148, 84, 83, 74, 76, 75, 635, 636, 637, 638, 639, 640, 641, 642, 643, 644, 645, 646, 647, 648, 649, 650, 651, 652, 653, 654, 655, 656, 657, 658, 659, 660, 661, 662, 663] (by decide +kernel) (by decide +kernel)) (goodIn_sub (fun _ h => List.mem_append_left _ (List.mem_append_left _ (List.mem_append_left _ (List.mem_append_left _ (List.mem_append_left _ (List.mem_append_left _ (List.mem_append_left _ (List.mem_append_right _ h)))))))) (by decide +kernel))) (goodIn_sub (fun _ h => List.mem_append_left _ (List.mem_append_right _ h)) (by decide +kernel))
set_option maxRecDepth 20000 in
theorem gL_law_X5_trim : GoodIn wsL_law (wsV RL 135 RX5 yX5_trim wsX5_trim) := goodIn_app (goodIn_of _ (by decide +kernel)) ggL_law_X5_trim
set_option maxRecDepth 20000 in
theorem ggL_law_L_trimByTable : GoodIn wsL_law wsL_trimByTable := goodIn_ca (goodIn_ca (goodIn_r _ [365, 152, 366, 367, 368, 2, 369, 157, 158, 26, 22, 16, 163, 164, 165, 166, 99, 317, 318, 319, 25, 320, 321, 322, 142, 323, 324, 141, 143, 325, 326, 48, 327, 49, 328, 50, 329, 276, 277, 21, 278, 139, 370, 371, 372, 373, 51, 335, 336, 337, 338, 374, 375, 376, 377, 622, 623, 624, 625, 626, 627, 628, 629, 630, 631, 632, 633, 634, 669, 670, 671, 672, 673, 674, 675, 676, 664, 665, 666, 667, 668] (by decide +kernel) (by decide +kernel)) (goodIn_sub (fun _ h => List.mem_append_left _ (List.mem_append_left _ (List.mem_append_left _ (List.mem_append_left _ (List.mem_append_left _ (List.mem_append_left _ (List.mem_append_left _ (List.mem_append_right _ h)))))))) (by decide +kernel))) (goodIn_sub (fun _ h => List.mem_append_left _ (List.mem_append_left _ (List.mem_append_left _ (List.mem_append_left _ (List.mem_append_right _ h))))) (by decide +kernel))
set_option maxRecDepth 20000 in
theorem gL_law_L_trimByTable : GoodIn wsL_law (va_wsS RL 136 yL_trimByTable wsL_trimByTable) := goodIn_app (goodIn_of _ (by decide +kernel)) ggL_law_L_trimByTable
set_option maxRecDepth 20000 in
theorem ggL_law_X5_trimByTable : GoodIn wsL_law wsX5_trimByTable := goodIn_ca (goodIn_ca (goodIn_r _ [381, 382, 351, 352, 5, 353, 71, 172, 173, 174, 175, 111, 112, 113, 114, 119, 120, 121, 122, 123, 354, 355, 356, 357, 358, 359, 360, 361, 362, 148, 84, 83, 74, 76, 75, 635, 636, 637, 638, 639, 640, 641, 642, 643, 644, 645, 646, 647, 648, 649, 650, 651, 652, 653, 654, 655, 656, 657, 658, 659, 660, 661, 662, 663] (by decide +kernel) (by decide +kernel)) (goodIn_sub (fun _ h => List.mem_append_left _ (List.mem_append_left _ (List.mem_append_left _ (List.mem_append_left _ (List.mem_append_left _ (List.mem_append_left _ (List.mem_append_left _ (List.mem_append_right _ h)))))))) (by decide +kernel))) (goodIn_sub (fun _ h => List.mem_append_left _ (List.mem_append_right _ h)) (by decide +kernel))
set_option maxRecDepth 20000 in
theorem gL_law_X5_trimByTable : GoodIn wsL_law (wsV RL 138 RX5 yX5_trimByTable wsX5_trimByTable) := goodIn_app (goodIn_of _ (by decide +kernel)) ggL_law_X5_trimByTable
set_option maxRecDepth 20000 in
theorem ggL_law_L_inCut : GoodIn wsL_law wsL_inCut := goodIn_ca (goodIn_ca (goodIn_r _ [385, 152, 386, 387, 388, 2, 389, 157, 158, 22, 26, 390, 16, 391, 275, 276, 277, 21, 278, 139, 317, 318, 319, 25, 320, 321, 322, 142, 323, 324, 141, 143, 325, 326, 48, 327, 49, 328, 50, 329, 330, 331, 332, 333, 334, 46, 335, 336, 337, 338, 339, 340, 341, 47, 342, 343, 344, 345, 346, 347, 348, 349, 622, 623, 624, 625, 626, 627, 628, 629, 630, 631, 632, 633, 634, 664, 665, 666, 667, 668, 669, 670, 671, 672, 673, 674, 675, 676] (by decide +kernel) (by decide +kernel)) (goodIn_sub (fun _ h => List.mem_append_left _ (List.mem_append_left _ (List.mem_append_left _ (List.mem_append_left _ (List.mem_append_left _ (List.mem_append_left _ (List.mem_append_left _ (List.mem_append_right _ h)))))))) (by decide +kernel))) (goodIn_sub (fun _ h => List.mem_append_left _ (List.mem_append_left _ (List.mem_append_left _ (List.mem_append_left _ (List.mem_append_right _ h))))) (by decide +kernel))
set_option maxRecDepth 20000 in
theorem gL_law_L_inCut : GoodIn wsL_law (va_wsS RL 139 yL_inCut wsL_inCut) := goodIn_app (goodIn_of _ (by decide +kernel)) ggL_law_L_inCut
set_option maxRecDepth 20000 in
theorem ggL_law_X5_inCut : GoodIn wsL_law wsX5_inCut := goodIn_ca (goodIn_ca (goodIn_r _ [395, 74, 84, 283, 284, 285, 5, 286, 148, 112, 113, 114, 119, 120, 121, 122, 123, 354, 355, 356, 357, 358, 359, 360, 361, 362, 83, 76, 71, 75, 635, 636, 637, 638, 639, 640, 641, 642, 643, 644, 645, 646, 647, 648, 649, 650, 651, 652, 653, 654, 655, 656, 657, 658, 659, 660, 661, 662, 663] (by decide +kernel) (by decide +kernel)) (goodIn_sub (fun _ h => List.mem_append_left _ (List.mem_append_left _ (List.mem_append_left _ (List.mem_append_left _ (List.mem_append_left _ (List.mem_append_left _ (List.mem_append_left _ (List.mem_append_right _ h)))))))) (by decide +kernel))) (goodIn_sub (fun _ h => List.mem_append_left _ (List.mem_append_right _ h)) (by decide +kernel))
set_option maxRecDepth 20000 in
theorem gL_law_X5_inCut : GoodIn wsL_law (wsV RL 141 RX5 yX5_inCut wsX5_inCut) := goodIn_app (goodIn_of _ (by decide +kernel)) ggL_law_X5_inCut
set_option maxRecDepth 20000 in
theorem ggL_law_L_leastHours : GoodIn wsL_law wsL_leastHours := goodIn_ca (goodIn_ca (goodIn_ca (goodIn_r _ [398, 152, 399, 400, 401, 2, 402, 157, 158, 22, 16, 403, 141, 142, 143, 163, 164, 165, 166, 99, 404, 405, 406, 21, 407, 139, 39, 42, 40, 408, 409, 410, 209, 210, 211, 212, 622, 623, 624, 625, 626, 627, 628, 629, 630, 631, 632, 633, 634, 664, 665, 666, 667, 668] (by decide +kernel) (by decide +kernel)) (goodIn_sub (fun _ h => List.mem_append_left _ (List.mem_append_left _ (List.mem_append_left _ (List.mem_append_left _ (List.mem_append_left _ (List.mem_append_left _ (List.mem_append_left _ (List.mem_append_right _ h)))))))) (by decide +kernel))) (goodIn_sub (fun _ h => List.mem_append_left _ (List.mem_append_left _ (List.mem_append_left _ (List.mem_append_left _ (List.mem_append_right _ h))))) (by decide +kernel))) (goodIn_sub (fun _ h => List.mem_append_left _ (List.mem_append_right _ h)) (by decide +kernel))
set_option maxRecDepth 20000 in
theorem gL_law_L_leastHours : GoodIn wsL_law (va_wsS RL 142 yL_leastHours wsL_leastHours) := goodIn_app (goodIn_of _ (by decide +kernel)) ggL_law_L_leastHours
set_option maxRecDepth 20000 in
theorem ggL_law_X5_leastHours : GoodIn wsL_law wsX5_leastHours := goodIn_ca (goodIn_ca (goodIn_r _ [414, 148, 74, 76, 75, 71, 172, 173, 174, 5, 175, 111, 112, 113, 114, 119, 120, 121, 122, 123, 635, 636, 637, 638, 639, 640, 641, 642, 643, 644, 645, 646, 647, 648, 649, 650, 651, 652, 653, 654, 655, 656, 657, 658, 659, 660, 661, 662, 663] (by decide +kernel) (by decide +kernel)) (goodIn_sub (fun _ h => List.mem_append_left _ (List.mem_append_left _ (List.mem_append_left _ (List.mem_append_left _ (List.mem_append_left _ (List.mem_append_left _ (List.mem_append_left _ (List.mem_append_right _ h)))))))) (by decide +kernel))) (goodIn_sub (fun _ h => List.mem_append_left _ (List.mem_append_right _ h)) (by decide +kernel))
set_option maxRecDepth 20000 in
theorem gL_law_X5_leastHours : GoodIn wsL_law (wsV RL 144 RX5 yX5_leastHours wsX5_leastHours) := goodIn_app (goodIn_of _ (by decide +kernel)) ggL_law_X5_leastHours
set_option maxRecDepth 20000 in
theorem ggL_law_L_setShare : GoodIn wsL_law wsL_setShare := goodIn_ca (goodIn_ca (goodIn_r _ [417, 89, 418, 419, 420, 2, 421, 95, 96, 35, 100, 101, 102, 622, 623, 624, 625, 626, 627, 628, 629, 630, 631, 632, 633, 634] (by decide +kernel) (by decide +kernel)) (goodIn_sub (fun _ h => List.mem_append_left _ (List.mem_append_left _ (List.mem_append_left _ (List.mem_append_left _ (List.mem_append_left _ (List.mem_append_left _ (List.mem_append_left _ (List.mem_append_right _ h)))))))) (by decide +kernel))) (goodIn_sub (fun _ h => List.mem_append_left _ (List.mem_append_left _ (List.mem_append_left _ (List.mem_append_left _ (List.mem_append_left _ (List.mem_append_left _ (List.mem_append_right _ h))))))) (by decide +kernel))
set_option maxRecDepth 20000 in
theorem gL_law_L_setShare : GoodIn wsL_law (va_wsS RL 145 yL_setShare wsL_setShare) := goodIn_app (goodIn_of _ (by decide +kernel)) ggL_law_L_setShare
set_option maxRecDepth 20000 in
theorem ggL_law_X5_setShare : GoodIn wsL_law wsX5_setShare := goodIn_r _ [425, 78, 112, 113, 5, 114, 119, 120, 121, 122, 123, 635, 636, 637, 638, 639, 640, 641, 642, 643, 644, 645, 646, 647, 648, 649, 650, 651, 652, 653, 654, 655, 656, 657, 658, 659, 660, 661, 662, 663] (by decide +kernel) (by decide +kernel)
set_option maxRecDepth 20000 in
theorem gL_law_X5_setShare : GoodIn wsL_law (wsV RL 147 RX5 yX5_setShare wsX5_setShare) := goodIn_app (goodIn_of _ (by decide +kernel)) ggL_law_X5_setShare
set_option maxRecDepth 20000 in
theorem ggL_law_L_setContract : GoodIn wsL_law wsL_setContract := goodIn_ca (goodIn_ca (goodIn_r _ [428, 89, 429, 430, 431, 2, 432, 95, 96, 30, 433, 434, 435, 100, 101, 102, 622, 623, 624, 625, 626, 627, 628, 629, 630, 631, 632, 633, 634, 677, 678, 679] (by decide +kernel) (by decide +kernel)) (goodIn_sub (fun _ h => List.mem_append_left _ (List.mem_append_left _ (List.mem_append_left _ (List.mem_append_left _ (List.mem_append_left _ (List.mem_append_left _ (List.mem_append_left _ (List.mem_append_right _ h)))))))) (by decide +kernel))) (goodIn_sub (fun _ h => List.mem_append_left _ (List.mem_append_left _ (List.mem_append_left _ (List.mem_append_left _ (List.mem_append_left _ (List.mem_append_left _ (List.mem_append_right _ h))))))) (by decide +kernel))
set_option maxRecDepth 20000 in
theorem gL_law_L_setContract : GoodIn wsL_law (va_wsS RL 148 yL_setContract wsL_setContract) := goodIn_app (goodIn_of _ (by decide +kernel)) ggL_law_L_setContract
set_option maxRecDepth 20000 in
theorem ggL_law_X5_setContract : GoodIn wsL_law wsX5_setContract := goodIn_r _ [439, 79, 80, 81, 112, 113, 5, 114, 119, 120, 121, 122, 123, 635, 636, 637, 638, 639, 640, 641, 642, 643, 644, 645, 646, 647, 648, 649, 650, 651, 652, 653, 654, 655, 656, 657, 658, 659, 660, 661, 662, 663] (by decide +kernel) (by decide +kernel)
set_option maxRecDepth 20000 in
theorem gL_law_X5_setContract : GoodIn wsL_law (wsV RL 150 RX5 yX5_setContract wsX5_setContract) := goodIn_app (goodIn_of _ (by decide +kernel)) ggL_law_X5_setContract
set_option maxRecDepth 20000 in
theorem ggL_law_L_pass : GoodIn wsL_law wsL_pass := goodIn_ca (goodIn_ca (goodIn_ca (goodIn_ca (goodIn_r _ [442, 89, 90, 443, 444, 445, 2, 446, 95, 96, 97, 98, 34, 447, 100, 101, 102, 448, 449, 450, 451, 17, 159, 26, 22, 16, 391, 163, 164, 165, 166, 99, 452, 453, 454, 33, 455, 456, 457, 458, 459, 460, 62, 63, 64, 65, 461, 462, 463, 232, 233, 234, 235, 15, 464, 465, 466, 467, 468, 35, 469, 322, 142, 323, 470, 471, 30, 472, 473, 474, 475, 29, 476, 55, 477, 56, 57, 317, 318, 319, 25, 320, 321, 324, 141, 143, 325, 326, 48, 327, 49, 328, 50, 329, 276, 277, 21, 278, 139, 330, 331, 332, 333, 334, 46, 335, 336, 337, 338, 339, 340, 341, 47, 342, 343, 344, 345, 346, 347, 348, 349, 478, 479, 480, 481, 482, 483, 484, 485, 486, 487, 488, 489, 490, 41, 42, 622, 623, 624, 625, 626, 627, 628, 629, 630, 631, 632, 633, 634, 680, 681, 682, 683, 684, 685, 686, 687, 688, 689, 690, 669, 670, 671, 672, 673, 674, 675, 676, 677, 678, 679, 664, 665, 666, 667, 668] (by decide +kernel) (by decide +kernel)) (goodIn_sub (fun _ h => List.mem_append_left _ (List.mem_append_left _ (List.mem_append_left _ (List.mem_append_left _ (List.mem_append_left _ (List.mem_append_left _ (List.mem_append_left _ (List.mem_append_right _ h)))))))) (by decide +kernel))) (goodIn_sub (fun _ h => List.mem_append_left _ (List.mem_append_left _ (List.mem_append_left _ (List.mem_append_left _ (List.mem_append_left _ (List.mem_append_left _ (List.mem_append_right _ h))))))) (by decide +kernel))) (goodIn_sub (fun _ h => List.mem_append_left _ (List.mem_append_left _ (List.mem_append_left _ (List.mem_append_left _ (List.mem_append_left _ (List.mem_append_right _ h)))))) (by decide +kernel))) (goodIn_sub (fun _ h => List.mem_append_left _ (List.mem_append_right _ h)) (by decide +kernel))
set_option maxRecDepth 20000 in
theorem gL_law_L_pass : GoodIn wsL_law (va_wsS RL 151 yL_pass wsL_pass) := goodIn_app (goodIn_of _ (by decide +kernel)) ggL_law_L_pass
set_option maxRecDepth 20000 in
theorem ggL_law_X5_pass : GoodIn wsL_law wsX5_pass := goodIn_ca (goodIn_ca (goodIn_r _ [494, 495, 112, 113, 5, 114, 119, 120, 121, 122, 123, 496, 497, 498, 499, 72, 82, 171, 240, 241, 242, 243, 70, 71, 500, 501, 502, 503, 78, 504, 505, 506, 507, 508, 79, 509, 80, 81, 510, 511, 512, 513, 148, 76, 84, 77, 514, 515, 354, 355, 356, 357, 358, 359, 360, 361, 362, 83, 74, 75, 635, 636, 637, 638, 639, 640, 641, 642, 643, 644, 645, 646, 647, 648, 649, 650, 651, 652, 653, 654, 655, 656, 657, 658, 659, 660, 661, 662, 663] (by decide +kernel) (by decide +kernel)) (goodIn_sub (fun _ h => List.mem_append_left _ (List.mem_append_left _ (List.mem_append_left _ (List.mem_append_left _ (List.mem_append_left _ (List.mem_append_left _ (List.mem_append_left _ (List.mem_append_right _ h)))))))) (by decide +kernel))) (goodIn_sub (fun _ h => List.mem_append_left _ (List.mem_append_right _ h)) (by decide +kernel))
set_option maxRecDepth 20000 in
theorem gL_law_X5_pass : GoodIn wsL_law (wsV RL 153 RX5 yX5_pass wsX5_pass) := goodIn_app (goodIn_of _ (by decide +kernel)) ggL_law_X5_pass
set_option maxRecDepth 20000 in
theorem ggL_law_X4_hours : GoodIn wsL_law wsX4_hours := goodIn_r _ [519, 34, 447, 622, 623, 624, 625, 626, 627, 628, 629, 630, 631, 632, 633, 634, 680, 681, 682, 683, 684, 685, 686, 687, 688, 689, 690] (by decide +kernel) (by decide +kernel)
set_option maxRecDepth 20000 in
theorem gL_law_X4_hours : GoodIn wsL_law (wsV RL 154 RX4 yX4_hours wsX4_hours) := goodIn_app (goodIn_of _ (by decide +kernel)) ggL_law_X4_hours
set_option maxRecDepth 20000 in
theorem ggL_law_X5_hours : GoodIn wsL_law wsX5_hours := goodIn_r _ [523, 123, 495, 635, 636, 637, 638, 639, 640, 641, 642, 643, 644, 645, 646, 647, 648, 649, 650, 651, 652, 653, 654, 655, 656, 657, 658, 659, 660, 661, 662, 663] (by decide +kernel) (by decide +kernel)
set_option maxRecDepth 20000 in
theorem gL_law_X5_hours : GoodIn wsL_law (wsV RL 157 RX5 yX5_hours wsX5_hours) := goodIn_app (goodIn_of _ (by decide +kernel)) ggL_law_X5_hours
set_option maxRecDepth 20000 in
theorem ggL_law_X4_broke : GoodIn wsL_law wsX4_broke := goodIn_r _ [527, 468, 622, 623, 624, 625, 626, 627, 628, 629, 630, 631, 632, 633, 634] (by decide +kernel) (by decide +kernel)
set_option maxRecDepth 20000 in
theorem gL_law_X4_broke : GoodIn wsL_law (wsV RL 158 RX4 yX4_broke wsX4_broke) := goodIn_app (goodIn_of _ (by decide +kernel)) ggL_law_X4_broke
set_option maxRecDepth 20000 in
theorem ggL_law_X5_broke : GoodIn wsL_law wsX5_broke := goodIn_r _ [531, 123, 504, 635, 636, 637, 638, 639, 640, 641, 642, 643, 644, 645, 646, 647, 648, 649, 650, 651, 652, 653, 654, 655, 656, 657, 658, 659, 660, 661, 662, 663] (by decide +kernel) (by decide +kernel)
set_option maxRecDepth 20000 in
theorem gL_law_X5_broke : GoodIn wsL_law (wsV RL 161 RX5 yX5_broke wsX5_broke) := goodIn_app (goodIn_of _ (by decide +kernel)) ggL_law_X5_broke
set_option maxRecDepth 20000 in
theorem ggL_law_X4_brokeByHours : GoodIn wsL_law wsX4_brokeByHours := goodIn_ca (goodIn_r _ [535, 34, 536, 537, 538, 33, 539, 460, 63, 64, 65, 622, 623, 624, 625, 626, 627, 628, 629, 630, 631, 632, 633, 634, 680, 681, 682, 683, 684, 685, 686, 687, 688, 689, 690] (by decide +kernel) (by decide +kernel)) (goodIn_sub (fun _ h => List.mem_append_left _ (List.mem_append_left _ (List.mem_append_left _ (List.mem_append_left _ (List.mem_append_left _ (List.mem_append_left _ (List.mem_append_left _ (List.mem_append_right _ h)))))))) (by decide +kernel))
set_option maxRecDepth 20000 in
theorem gL_law_X4_brokeByHours : GoodIn wsL_law (wsV RL 162 RX4 yX4_brokeByHours wsX4_brokeByHours) := goodIn_app (goodIn_of _ (by decide +kernel)) ggL_law_X4_brokeByHours
set_option maxRecDepth 20000 in
theorem ggL_law_X5_brokeByHours : GoodIn wsL_law wsX5_brokeByHours := goodIn_r _ [543, 123, 504, 635, 636, 637, 638, 639, 640, 641, 642, 643, 644, 645, 646, 647, 648, 649, 650, 651, 652, 653, 654, 655, 656, 657, 658, 659, 660, 661, 662, 663] (by decide +kernel) (by decide +kernel)
set_option maxRecDepth 20000 in
theorem gL_law_X5_brokeByHours : GoodIn wsL_law (wsV RL 165 RX5 yX5_brokeByHours wsX5_brokeByHours) := goodIn_app (goodIn_of _ (by decide +kernel)) ggL_law_X5_brokeByHours
set_option maxRecDepth 20000 in
theorem ggL_law_X4_fresh : GoodIn wsL_law wsX4_fresh := goodIn_r _ [547, 34, 548, 622, 623, 624, 625, 626, 627, 628, 629, 630, 631, 632, 633, 634, 680, 681, 682, 683, 684, 685, 686, 687, 688, 689, 690] (by decide +kernel) (by decide +kernel)
set_option maxRecDepth 20000 in
theorem gL_law_X4_fresh : GoodIn wsL_law (wsV RL 166 RX4 yX4_fresh wsX4_fresh) := goodIn_app (goodIn_of _ (by decide +kernel)) ggL_law_X4_fresh
set_option maxRecDepth 20000 in
theorem ggL_law_X5_fresh : GoodIn wsL_law wsX5_fresh := goodIn_r _ [552, 123, 505, 635, 636, 637, 638, 639, 640, 641, 642, 643, 644, 645, 646, 647, 648, 649, 650, 651, 652, 653, 654, 655, 656, 657, 658, 659, 660, 661, 662, 663] (by decide +kernel) (by decide +kernel)
set_option maxRecDepth 20000 in
theorem gL_law_X5_fresh : GoodIn wsL_law (wsV RL 170 RX5 yX5_fresh wsX5_fresh) := goodIn_app (goodIn_of _ (by decide +kernel)) ggL_law_X5_fresh
set_option maxRecDepth 20000 in
theorem ggL_law_X4_paper : GoodIn wsL_law wsX4_paper := goodIn_r _ [556, 34, 557, 622, 623, 624, 625, 626, 627, 628, 629, 630, 631, 632, 633, 634, 680, 681, 682, 683, 684, 685, 686, 687, 688, 689, 690] (by decide +kernel) (by decide +kernel)
set_option maxRecDepth 20000 in
theorem gL_law_X4_paper : GoodIn wsL_law (wsV RL 171 RX4 yX4_paper wsX4_paper) := goodIn_app (goodIn_of _ (by decide +kernel)) ggL_law_X4_paper
set_option maxRecDepth 20000 in
theorem ggL_law_X5_paper : GoodIn wsL_law wsX5_paper := goodIn_r _ [561, 123, 506, 635, 636, 637, 638, 639, 640, 641, 642, 643, 644, 645, 646, 647, 648, 649, 650, 651, 652, 653, 654, 655, 656, 657, 658, 659, 660, 661, 662, 663] (by decide +kernel) (by decide +kernel)
set_option maxRecDepth 20000 in
theorem gL_law_X5_paper : GoodIn wsL_law (wsV RL 174 RX5 yX5_paper wsX5_paper) := goodIn_app (goodIn_of _ (by decide +kernel)) ggL_law_X5_paper
set_option maxRecDepth 20000 in
theorem ggL_law_X4_lost : GoodIn wsL_law wsX4_lost := goodIn_r _ [565, 34, 566, 622, 623, 624, 625, 626, 627, 628, 629, 630, 631, 632, 633, 634, 680, 681, 682, 683, 684, 685, 686, 687, 688, 689, 690] (by decide +kernel) (by decide +kernel)
set_option maxRecDepth 20000 in
theorem gL_law_X4_lost : GoodIn wsL_law (wsV RL 175 RX4 yX4_lost wsX4_lost) := goodIn_app (goodIn_of _ (by decide +kernel)) ggL_law_X4_lost
set_option maxRecDepth 20000 in
theorem ggL_law_X5_lost : GoodIn wsL_law wsX5_lost := goodIn_r _ [570, 123, 507, 635, 636, 637, 638, 639, 640, 641, 642, 643, 644, 645, 646, 647, 648, 649, 650, 651, 652, 653, 654, 655, 656, 657, 658, 659, 660, 661, 662, 663] (by decide +kernel) (by decide +kernel)
set_option maxRecDepth 20000 in
theorem gL_law_X5_lost : GoodIn wsL_law (wsV RL 178 RX5 yX5_lost wsX5_lost) := goodIn_app (goodIn_of _ (by decide +kernel)) ggL_law_X5_lost
set_option maxRecDepth 20000 in
theorem ggL_law_L_made : GoodIn wsL_law wsL_made := goodIn_ca (goodIn_ca (goodIn_r _ [573, 152, 574, 575, 576, 2, 577, 157, 158, 34, 578, 579, 580, 581, 33, 582, 460, 622, 623, 624, 625, 626, 627, 628, 629, 630, 631, 632, 633, 634, 680, 681, 682, 683, 684, 685, 686, 687, 688, 689, 690] (by decide +kernel) (by decide +kernel)) (goodIn_sub (fun _ h => List.mem_append_left _ (List.mem_append_left _ (List.mem_append_left _ (List.mem_append_left _ (List.mem_append_left _ (List.mem_append_left _ (List.mem_append_left _ (List.mem_append_right _ h)))))))) (by decide +kernel))) (goodIn_sub (fun _ h => List.mem_append_left _ (List.mem_append_left _ (List.mem_append_left _ (List.mem_append_left _ (List.mem_append_right _ h))))) (by decide +kernel))
set_option maxRecDepth 20000 in
theorem gL_law_L_made : GoodIn wsL_law (va_wsS RL 179 yL_made wsL_made) := goodIn_app (goodIn_of _ (by decide +kernel)) ggL_law_L_made
set_option maxRecDepth 20000 in
theorem ggL_law_X5_made : GoodIn wsL_law wsX5_made := goodIn_ca (goodIn_r _ [586, 495, 82, 112, 113, 5, 114, 119, 120, 121, 122, 123, 635, 636, 637, 638, 639, 640, 641, 642, 643, 644, 645, 646, 647, 648, 649, 650, 651, 652, 653, 654, 655, 656, 657, 658, 659, 660, 661, 662, 663] (by decide +kernel) (by decide +kernel)) (goodIn_sub (fun _ h => List.mem_append_left _ (List.mem_append_left _ (List.mem_append_left _ (List.mem_append_left _ (List.mem_append_left _ (List.mem_append_left _ (List.mem_append_left _ (List.mem_append_right _ h)))))))) (by decide +kernel))
set_option maxRecDepth 20000 in
theorem gL_law_X5_made : GoodIn wsL_law (wsV RL 181 RX5 yX5_made wsX5_made) := goodIn_app (goodIn_of _ (by decide +kernel)) ggL_law_X5_made
set_option maxRecDepth 20000 in
theorem ggL_law_X4_steamCost : GoodIn wsL_law wsX4_steamCost := goodIn_r _ [590, 471, 622, 623, 624, 625, 626, 627, 628, 629, 630, 631, 632, 633, 634] (by decide +kernel) (by decide +kernel)
set_option maxRecDepth 20000 in
theorem gL_law_X4_steamCost : GoodIn wsL_law (wsV RL 182 RX4 yX4_steamCost wsX4_steamCost) := goodIn_app (goodIn_of _ (by decide +kernel)) ggL_law_X4_steamCost
set_option maxRecDepth 20000 in
theorem ggL_law_X5_steamCost : GoodIn wsL_law wsX5_steamCost := goodIn_r _ [594, 123, 509, 635, 636, 637, 638, 639, 640, 641, 642, 643, 644, 645, 646, 647, 648, 649, 650, 651, 652, 653, 654, 655, 656, 657, 658, 659, 660, 661, 662, 663] (by decide +kernel) (by decide +kernel)
set_option maxRecDepth 20000 in
theorem gL_law_X5_steamCost : GoodIn wsL_law (wsV RL 185 RX5 yX5_steamCost wsX5_steamCost) := goodIn_app (goodIn_of _ (by decide +kernel)) ggL_law_X5_steamCost
set_option maxRecDepth 20000 in
theorem ggL_law_L_paperShare : GoodIn wsL_law wsL_paperShare := goodIn_ca (goodIn_ca (goodIn_r _ [597, 598, 599, 600, 601, 2, 602, 603, 604, 34, 470, 557, 622, 623, 624, 625, 626, 627, 628, 629, 630, 631, 632, 633, 634, 680, 681, 682, 683, 684, 685, 686, 687, 688, 689, 690] (by decide +kernel) (by decide +kernel)) (goodIn_sub (fun _ h => List.mem_append_left _ (List.mem_append_left _ (List.mem_append_left _ (List.mem_append_left _ (List.mem_append_left _ (List.mem_append_left _ (List.mem_append_left _ (List.mem_append_right _ h)))))))) (by decide +kernel))) (goodIn_sub (fun _ h => List.mem_append_right _ h) (by decide +kernel))
set_option maxRecDepth 20000 in
theorem gL_law_L_paperShare : GoodIn wsL_law (va_wsS RL 186 yL_paperShare wsL_paperShare) := goodIn_app (goodIn_of _ (by decide +kernel)) ggL_law_L_paperShare
set_option maxRecDepth 20000 in
theorem ggL_law_X5_paperShare : GoodIn wsL_law wsX5_paperShare := goodIn_r _ [608, 508, 506, 119, 120, 121, 5, 122, 123, 635, 636, 637, 638, 639, 640, 641, 642, 643, 644, 645, 646, 647, 648, 649, 650, 651, 652, 653, 654, 655, 656, 657, 658, 659, 660, 661, 662, 663] (by decide +kernel) (by decide +kernel)
set_option maxRecDepth 20000 in
theorem gL_law_X5_paperShare : GoodIn wsL_law (wsV RL 189 RX5 yX5_paperShare wsX5_paperShare) := goodIn_app (goodIn_of _ (by decide +kernel)) ggL_law_X5_paperShare
set_option maxRecDepth 20000 in
theorem ggL_law_L_meanTrim : GoodIn wsL_law wsL_meanTrim := goodIn_ca (goodIn_ca (goodIn_r _ [611, 598, 612, 613, 614, 2, 615, 603, 604, 34, 616, 617, 622, 623, 624, 625, 626, 627, 628, 629, 630, 631, 632, 633, 634, 680, 681, 682, 683, 684, 685, 686, 687, 688, 689, 690] (by decide +kernel) (by decide +kernel)) (goodIn_sub (fun _ h => List.mem_append_left _ (List.mem_append_left _ (List.mem_append_left _ (List.mem_append_left _ (List.mem_append_left _ (List.mem_append_left _ (List.mem_append_left _ (List.mem_append_right _ h)))))))) (by decide +kernel))) (goodIn_sub (fun _ h => List.mem_append_right _ h) (by decide +kernel))
set_option maxRecDepth 20000 in
theorem gL_law_L_meanTrim : GoodIn wsL_law (va_wsS RL 190 yL_meanTrim wsL_meanTrim) := goodIn_app (goodIn_of _ (by decide +kernel)) ggL_law_L_meanTrim
set_option maxRecDepth 20000 in
theorem ggL_law_X5_meanTrim : GoodIn wsL_law wsX5_meanTrim := goodIn_r _ [621, 514, 515, 119, 120, 121, 5, 122, 123, 635, 636, 637, 638, 639, 640, 641, 642, 643, 644, 645, 646, 647, 648, 649, 650, 651, 652, 653, 654, 655, 656, 657, 658, 659, 660, 661, 662, 663] (by decide +kernel) (by decide +kernel)
set_option maxRecDepth 20000 in
theorem gL_law_X5_meanTrim : GoodIn wsL_law (wsV RL 192 RX5 yX5_meanTrim wsX5_meanTrim) := goodIn_app (goodIn_of _ (by decide +kernel)) ggL_law_X5_meanTrim
theorem dL_law_0 : decode cL_law 0 = .ok (.new 8, 3) := by decide +kernel
theorem dL_law_3 : decode cL_law 3 = .ok (.dup, 1) := by decide +kernel
theorem dL_law_4 : decode cL_law 4 = .ok (.invokespecial 87, 3) := by decide +kernel
theorem dL_law_7 : decode cL_law 7 = .ok (.astore_n 1, 1) := by decide +kernel
theorem dL_law_8 : decode cL_law 8 = .ok (.new 88, 3) := by decide +kernel
theorem dL_law_11 : decode cL_law 11 = .ok (.dup, 1) := by decide +kernel
theorem dL_law_12 : decode cL_law 12 = .ok (.invokespecial 90, 3) := by decide +kernel
theorem dL_law_15 : decode cL_law 15 = .ok (.astore_n 2, 1) := by decide +kernel
theorem dL_law_16 : decode cL_law 16 = .ok (.iconst 1, 1) := by decide +kernel
theorem dL_law_17 : decode cL_law 17 = .ok (.newarray .long, 2) := by decide +kernel
theorem dL_law_19 : decode cL_law 19 = .ok (.astore_n 3, 1) := by decide +kernel
theorem dL_law_20 : decode cL_law 20 = .ok (.iconst 1, 1) := by decide +kernel
theorem dL_law_21 : decode cL_law 21 = .ok (.newarray .double, 2) := by decide +kernel
theorem dL_law_23 : decode cL_law 23 = .ok (.astore 4, 2) := by decide +kernel
theorem dL_law_25 : decode cL_law 25 = .ok (.iconst 0, 1) := by decide +kernel
theorem dL_law_26 : decode cL_law 26 = .ok (.istore 5, 2) := by decide +kernel
theorem dL_law_28 : decode cL_law 28 = .ok (.iload 5, 2) := by decide +kernel
theorem dL_law_30 : decode cL_law 30 = .ok (.aload_n 0, 1) := by decide +kernel
theorem dL_law_31 : decode cL_law 31 = .ok (.arraylength, 1) := by decide +kernel
theorem dL_law_32 : decode cL_law 32 = .ok (.iconst 4, 1) := by decide +kernel
theorem dL_law_33 : decode cL_law 33 = .ok (.isub, 1) := by decide +kernel
theorem dL_law_34 : decode cL_law 34 = .ok (.if_icmp .gt 1415, 3) := by decide +kernel
