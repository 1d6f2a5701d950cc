theorem dX1_assessed_14 : decode cX1_assessed 14 = .ok (.iload_n 2, 1) := by decide +kernel
theorem dX1_assessed_15 : decode cX1_assessed 15 = .ok (.iaload, 1) := by decide +kernel
theorem dX1_assessed_16 : decode cX1_assessed 16 = .ok (.ireturn, 1) := by decide +kernel
set_option maxRecDepth 20000 in
theorem ggX1_paid_X1_existing : GoodIn wsX1_paid wsX1_existing := goodIn_ca (goodIn_r _ [5, 6, 7, 8, 21, 22, 23] (by decide +kernel) (by decide +kernel)) (goodIn_sub (fun _ h => List.mem_cons_of_mem _ (List.mem_append_right _ h)) (by decide +kernel))
set_option maxRecDepth 20000 in
theorem gX1_paid_X1_existing : GoodIn wsX1_paid (wsV RX1 34 RX1 yX1_existing wsX1_existing) := goodIn_app (goodIn_of _ (by decide +kernel)) ggX1_paid_X1_existing
set_option maxRecDepth 20000 in
theorem ggX1_paid_X1_checkMonth : GoodIn wsX1_paid wsX1_checkMonth := goodIn_ca (goodIn_r _ [11, 6, 7] (by decide +kernel) (by decide +kernel)) (goodIn_sub (fun _ h => List.mem_cons_of_mem _ (List.mem_append_right _ h)) (by decide +kernel))
set_option maxRecDepth 20000 in
theorem gX1_paid_X1_checkMonth : GoodIn wsX1_paid (va_wsS RX1 86 yX1_checkMonth wsX1_checkMonth) := goodIn_app (goodIn_of _ (by decide +kernel)) ggX1_paid_X1_checkMonth
theorem dX1_paid_0 : decode cX1_paid 0 = .ok (.aload_n 0, 1) := by decide +kernel
theorem dX1_paid_1 : decode cX1_paid 1 = .ok (.iload_n 1, 1) := by decide +kernel
theorem dX1_paid_2 : decode cX1_paid 2 = .ok (.invokevirtual 34, 3) := by decide +kernel
theorem dX1_paid_5 : decode cX1_paid 5 = .ok (.astore_n 3, 1) := by decide +kernel
theorem dX1_paid_6 : decode cX1_paid 6 = .ok (.iload_n 2, 1) := by decide +kernel
theorem dX1_paid_7 : decode cX1_paid 7 = .ok (.invokestatic 86, 3) := by decide +kernel
theorem dX1_paid_10 : decode cX1_paid 10 = .ok (.aload_n 3, 1) := by decide +kernel
theorem dX1_paid_11 : decode cX1_paid 11 = .ok (.getfield 114, 3) := by decide +kernel
theorem dX1_paid_14 : decode cX1_paid 14 = .ok (.iload_n 2, 1) := by decide +kernel
theorem dX1_paid_15 : decode cX1_paid 15 = .ok (.iaload, 1) := by decide +kernel
theorem dX1_paid_16 : decode cX1_paid 16 = .ok (.ireturn, 1) := by decide +kernel
set_option maxRecDepth 20000 in
theorem ggX1_debt_X1_existing : GoodIn wsX1_debt wsX1_existing := goodIn_ca (goodIn_r _ [5, 6, 7, 8, 18, 19, 20] (by decide +kernel) (by decide +kernel)) (goodIn_sub (fun _ h => List.mem_cons_of_mem _ (List.mem_append_right _ h)) (by decide +kernel))
set_option maxRecDepth 20000 in
theorem gX1_debt_X1_existing : GoodIn wsX1_debt (wsV RX1 34 RX1 yX1_existing wsX1_existing) := goodIn_app (goodIn_of _ (by decide +kernel)) ggX1_debt_X1_existing
theorem dX1_debt_0 : decode cX1_debt 0 = .ok (.aload_n 0, 1) := by decide +kernel
theorem dX1_debt_1 : decode cX1_debt 1 = .ok (.iload_n 1, 1) := by decide +kernel
theorem dX1_debt_2 : decode cX1_debt 2 = .ok (.invokevirtual 34, 3) := by decide +kernel
theorem dX1_debt_5 : decode cX1_debt 5 = .ok (.getfield 75, 3) := by decide +kernel
theorem dX1_debt_8 : decode cX1_debt 8 = .ok (.ireturn, 1) := by decide +kernel
set_option maxRecDepth 20000 in
theorem ggX1_recovered_X1_existing : GoodIn wsX1_recovered wsX1_existing := goodIn_ca (goodIn_r _ [5, 6, 7, 8, 18, 19, 20] (by decide +kernel) (by decide +kernel)) (goodIn_sub (fun _ h => List.mem_cons_of_mem _ (List.mem_append_right _ h)) (by decide +kernel))
set_option maxRecDepth 20000 in
theorem gX1_recovered_X1_existing : GoodIn wsX1_recovered (wsV RX1 34 RX1 yX1_existing wsX1_existing) := goodIn_app (goodIn_of _ (by decide +kernel)) ggX1_recovered_X1_existing
theorem dX1_recovered_0 : decode cX1_recovered 0 = .ok (.aload_n 0, 1) := by decide +kernel
theorem dX1_recovered_1 : decode cX1_recovered 1 = .ok (.iload_n 1, 1) := by decide +kernel
theorem dX1_recovered_2 : decode cX1_recovered 2 = .ok (.invokevirtual 34, 3) := by decide +kernel
theorem dX1_recovered_5 : decode cX1_recovered 5 = .ok (.getfield 117, 3) := by decide +kernel
theorem dX1_recovered_8 : decode cX1_recovered 8 = .ok (.ireturn, 1) := by decide +kernel
theorem dX1_existing_0 : decode cX1_existing 0 = .ok (.iload_n 1, 1) := by decide +kernel
theorem dX1_existing_1 : decode cX1_existing 1 = .ok (.ifCond .lt 12, 3) := by decide +kernel
theorem dX1_existing_4 : decode cX1_existing 4 = .ok (.iload_n 1, 1) := by decide +kernel
theorem dX1_existing_5 : decode cX1_existing 5 = .ok (.aload_n 0, 1) := by decide +kernel
theorem dX1_existing_6 : decode cX1_existing 6 = .ok (.getfield 11, 3) := by decide +kernel
theorem dX1_existing_9 : decode cX1_existing 9 = .ok (.arraylength, 1) := by decide +kernel
theorem dX1_existing_10 : decode cX1_existing 10 = .ok (.if_icmp .lt 13, 3) := by decide +kernel
theorem dX1_existing_13 : decode cX1_existing 13 = .ok (.new 120, 3) := by decide +kernel
theorem dX1_existing_16 : decode cX1_existing 16 = .ok (.dup, 1) := by decide +kernel
theorem dX1_existing_17 : decode cX1_existing 17 = .ok (.ldc 122, 2) := by decide +kernel
theorem dX1_existing_19 : decode cX1_existing 19 = .ok (.invokespecial 124, 3) := by decide +kernel
theorem dX1_existing_22 : decode cX1_existing 22 = .ok (.athrow, 1) := by decide +kernel
theorem dX1_existing_23 : decode cX1_existing 23 = .ok (.aload_n 0, 1) := by decide +kernel
theorem dX1_existing_24 : decode cX1_existing 24 = .ok (.getfield 11, 3) := by decide +kernel
theorem dX1_existing_27 : decode cX1_existing 27 = .ok (.iload_n 1, 1) := by decide +kernel
theorem dX1_existing_28 : decode cX1_existing 28 = .ok (.aaload, 1) := by decide +kernel
theorem dX1_existing_29 : decode cX1_existing 29 = .ok (.astore_n 2, 1) := by decide +kernel
theorem dX1_existing_30 : decode cX1_existing 30 = .ok (.aload_n 2, 1) := by decide +kernel
theorem dX1_existing_31 : decode cX1_existing 31 = .ok (.ifnonnull 13, 3) := by decide +kernel
theorem dX1_existing_34 : decode cX1_existing 34 = .ok (.new 120, 3) := by decide +kernel
theorem dX1_existing_37 : decode cX1_existing 37 = .ok (.dup, 1) := by decide +kernel
theorem dX1_existing_38 : decode cX1_existing 38 = .ok (.ldc 122, 2) := by decide +kernel
theorem dX1_existing_40 : decode cX1_existing 40 = .ok (.invokespecial 124, 3) := by decide +kernel
theorem dX1_existing_43 : decode cX1_existing 43 = .ok (.athrow, 1) := by decide +kernel
theorem dX1_existing_44 : decode cX1_existing 44 = .ok (.aload_n 2, 1) := by decide +kernel
theorem dX1_existing_45 : decode cX1_existing 45 = .ok (.areturn, 1) := by decide +kernel
theorem dX1_checkMonth_0 : decode cX1_checkMonth 0 = .ok (.iload_n 0, 1) := by decide +kernel
theorem dX1_checkMonth_1 : decode cX1_checkMonth 1 = .ok (.ifCond .lt 9, 3) := by decide +kernel
theorem dX1_checkMonth_4 : decode cX1_checkMonth 4 = .ok (.iload_n 0, 1) := by decide +kernel
theorem dX1_checkMonth_5 : decode cX1_checkMonth 5 = .ok (.bipush 48, 2) := by decide +kernel
theorem dX1_checkMonth_7 : decode cX1_checkMonth 7 = .ok (.if_icmp .lt 13, 3) := by decide +kernel
theorem dX1_checkMonth_10 : decode cX1_checkMonth 10 = .ok (.new 120, 3) := by decide +kernel
theorem dX1_checkMonth_13 : decode cX1_checkMonth 13 = .ok (.dup, 1) := by decide +kernel
theorem dX1_checkMonth_14 : decode cX1_checkMonth 14 = .ok (.ldc 125, 2) := by decide +kernel
theorem dX1_checkMonth_16 : decode cX1_checkMonth 16 = .ok (.invokespecial 124, 3) := by decide +kernel
theorem dX1_checkMonth_19 : decode cX1_checkMonth 19 = .ok (.athrow, 1) := by decide +kernel
theorem dX1_checkMonth_20 : decode cX1_checkMonth 20 = .ok (.return_, 1) := by decide +kernel
theorem dX1_checkFact_0 : decode cX1_checkFact 0 = .ok (.iload_n 0, 1) := by decide +kernel
theorem dX1_checkFact_1 : decode cX1_checkFact 1 = .ok (.ifCond .lt 8, 3) := by decide +kernel
theorem dX1_checkFact_4 : decode cX1_checkFact 4 = .ok (.iload_n 0, 1) := by decide +kernel
theorem dX1_checkFact_5 : decode cX1_checkFact 5 = .ok (.iconst 5, 1) := by decide +kernel
theorem dX1_checkFact_6 : decode cX1_checkFact 6 = .ok (.if_icmp .lt 13, 3) := by decide +kernel
theorem dX1_checkFact_9 : decode cX1_checkFact 9 = .ok (.new 41, 3) := by decide +kernel
theorem dX1_checkFact_12 : decode cX1_checkFact 12 = .ok (.dup, 1) := by decide +kernel
theorem dX1_checkFact_13 : decode cX1_checkFact 13 = .ok (.ldc 127, 2) := by decide +kernel
theorem dX1_checkFact_15 : decode cX1_checkFact 15 = .ok (.invokespecial 45, 3) := by decide +kernel
theorem dX1_checkFact_18 : decode cX1_checkFact 18 = .ok (.athrow, 1) := by decide +kernel
theorem dX1_checkFact_19 : decode cX1_checkFact 19 = .ok (.return_, 1) := by decide +kernel
theorem dX1_monthCountedFrom_0 : decode cX1_monthCountedFrom 0 = .ok (.iload_n 0, 1) := by decide +kernel
theorem dX1_monthCountedFrom_1 : decode cX1_monthCountedFrom 1 = .ok (.bipush 30, 2) := by decide +kernel
theorem dX1_monthCountedFrom_3 : decode cX1_monthCountedFrom 3 = .ok (.idiv, 1) := by decide +kernel
theorem dX1_monthCountedFrom_4 : decode cX1_monthCountedFrom 4 = .ok (.istore_n 1, 1) := by decide +kernel
theorem dX1_monthCountedFrom_5 : decode cX1_monthCountedFrom 5 = .ok (.iload_n 0, 1) := by decide +kernel
theorem dX1_monthCountedFrom_6 : decode cX1_monthCountedFrom 6 = .ok (.bipush 30, 2) := by decide +kernel
theorem dX1_monthCountedFrom_8 : decode cX1_monthCountedFrom 8 = .ok (.irem, 1) := by decide +kernel
theorem dX1_monthCountedFrom_9 : decode cX1_monthCountedFrom 9 = .ok (.bipush 15, 2) := by decide +kernel
theorem dX1_monthCountedFrom_11 : decode cX1_monthCountedFrom 11 = .ok (.if_icmp .ge 7, 3) := by decide +kernel
theorem dX1_monthCountedFrom_14 : decode cX1_monthCountedFrom 14 = .ok (.iload_n 1, 1) := by decide +kernel
theorem dX1_monthCountedFrom_15 : decode cX1_monthCountedFrom 15 = .ok (.goto 6, 3) := by decide +kernel
theorem dX1_monthCountedFrom_18 : decode cX1_monthCountedFrom 18 = .ok (.iload_n 1, 1) := by decide +kernel
theorem dX1_monthCountedFrom_19 : decode cX1_monthCountedFrom 19 = .ok (.iconst 1, 1) := by decide +kernel
theorem dX1_monthCountedFrom_20 : decode cX1_monthCountedFrom 20 = .ok (.iadd, 1) := by decide +kernel
theorem dX1_monthCountedFrom_21 : decode cX1_monthCountedFrom 21 = .ok (.ireturn, 1) := by decide +kernel
theorem dJ9_max_7cf53_0 : decode cJ9_max_7cf53 0 = .ok (.iload_n 0, 1) := by decide +kernel
theorem dJ9_max_7cf53_1 : decode cJ9_max_7cf53 1 = .ok (.iload_n 1, 1) := by decide +kernel
theorem dJ9_max_7cf53_2 : decode cJ9_max_7cf53 2 = .ok (.if_icmp .lt 7, 3) := by decide +kernel
theorem dJ9_max_7cf53_5 : decode cJ9_max_7cf53 5 = .ok (.iload_n 0, 1) := by decide +kernel
theorem dJ9_max_7cf53_6 : decode cJ9_max_7cf53 6 = .ok (.goto 4, 3) := by decide +kernel
theorem dJ9_max_7cf53_9 : decode cJ9_max_7cf53 9 = .ok (.iload_n 1, 1) := by decide +kernel
theorem dJ9_max_7cf53_10 : decode cJ9_max_7cf53 10 = .ok (.ireturn, 1) := by decide +kernel
theorem dJ9_min_7cf53_0 : decode cJ9_min_7cf53 0 = .ok (.iload_n 0, 1) := by decide +kernel
theorem dJ9_min_7cf53_1 : decode cJ9_min_7cf53 1 = .ok (.iload_n 1, 1) := by decide +kernel
theorem dJ9_min_7cf53_2 : decode cJ9_min_7cf53 2 = .ok (.if_icmp .gt 7, 3) := by decide +kernel
theorem dJ9_min_7cf53_5 : decode cJ9_min_7cf53 5 = .ok (.iload_n 0, 1) := by decide +kernel
theorem dJ9_min_7cf53_6 : decode cJ9_min_7cf53 6 = .ok (.goto 4, 3) := by decide +kernel
theorem dJ9_min_7cf53_9 : decode cJ9_min_7cf53 9 = .ok (.iload_n 1, 1) := by decide +kernel
theorem dJ9_min_7cf53_10 : decode cJ9_min_7cf53 10 = .ok (.ireturn, 1) := by decide +kernel
theorem dL_cell_0 : decode cL_cell 0 = .ok (.iload_n 1, 1) := by decide +kernel
theorem dL_cell_1 : decode cL_cell 1 = .ok (.aload_n 0, 1) := by decide +kernel
theorem dL_cell_2 : decode cL_cell 2 = .ok (.arraylength, 1) := by decide +kernel
theorem dL_cell_3 : decode cL_cell 3 = .ok (.if_icmp .ge 9, 3) := by decide +kernel
theorem dL_cell_6 : decode cL_cell 6 = .ok (.aload_n 0, 1) := by decide +kernel
theorem dL_cell_7 : decode cL_cell 7 = .ok (.iload_n 1, 1) := by decide +kernel
theorem dL_cell_8 : decode cL_cell 8 = .ok (.iaload, 1) := by decide +kernel
theorem dL_cell_9 : decode cL_cell 9 = .ok (.goto 13, 3) := by decide +kernel
theorem dL_cell_12 : decode cL_cell 12 = .ok (.ldc 7, 2) := by decide +kernel
theorem dL_cell_14 : decode cL_cell 14 = .ok (.iload_n 1, 1) := by decide +kernel
theorem dL_cell_15 : decode cL_cell 15 = .ok (.bipush 29, 2) := by decide +kernel
theorem dL_cell_17 : decode cL_cell 17 = .ok (.iadd, 1) := by decide +kernel
theorem dL_cell_18 : decode cL_cell 18 = .ok (.imul, 1) := by decide +kernel
theorem dL_cell_19 : decode cL_cell 19 = .ok (.ldc 8, 2) := by decide +kernel
theorem dL_cell_21 : decode cL_cell 21 = .ok (.iadd, 1) := by decide +kernel
theorem dL_cell_22 : decode cL_cell 22 = .ok (.ireturn, 1) := by decide +kernel
theorem dL_low_0 : decode cL_low 0 = .ok (.iload_n 0, 1) := by decide +kernel
theorem dL_low_1 : decode cL_low 1 = .ok (.ldc 9, 2) := by decide +kernel
theorem dL_low_3 : decode cL_low 3 = .ok (.iand, 1) := by decide +kernel
theorem dL_low_4 : decode cL_low 4 = .ok (.iload_n 1, 1) := by decide +kernel
theorem dL_low_5 : decode cL_low 5 = .ok (.irem, 1) := by decide +kernel
theorem dL_low_6 : decode cL_low 6 = .ok (.ireturn, 1) := by decide +kernel
set_option maxRecDepth 20000 in
theorem ggL_calls_X1_add : GoodIn wsL_calls wsX1_add := goodIn_ca (goodIn_r _ [6, 7, 8, 9, 10, 11, 12, 13, 14, 15, 16, 17, 18, 19, 20, 21, 22, 23, 24, 25, 26, 116, 117, 118, 119, 120, 121, 122, 123, 124, 125, 126, 127] (by decide +kernel) (by decide +kernel)) (goodIn_sub (fun _ h => List.mem_cons_of_mem _ (List.mem_append_left _ (List.mem_append_left _ (List.mem_append_right _ h)))) (by decide +kernel))
set_option maxRecDepth 20000 in
theorem gL_calls_X1_add : GoodIn wsL_calls (wsV RL 10 RX1 yX1_add wsX1_add) := goodIn_app (goodIn_of _ (by decide +kernel)) ggL_calls_X1_add
set_option maxRecDepth 20000 in
theorem ggL_calls_X1_tell : GoodIn wsL_calls wsX1_tell := goodIn_ca (goodIn_ca (goodIn_ca (goodIn_r _ [30, 31, 32, 7, 8, 33, 34, 35, 36, 37, 5, 38, 39, 40, 10, 41, 42, 43, 44, 45, 46, 47, 14, 48, 49, 50, 24, 23, 119, 120, 121, 122, 123, 124, 125, 126, 127, 116, 117, 118] (by decide +kernel) (by decide +kernel)) (goodIn_sub (fun _ h => List.mem_cons_of_mem _ (List.mem_append_left _ (List.mem_append_right _ h))) (by decide +kernel))) (goodIn_sub (fun _ h => List.mem_cons_of_mem _ (List.mem_append_left _ (List.mem_append_left _ (List.mem_append_right _ h)))) (by decide +kernel))) (goodIn_sub (fun _ h => List.mem_cons_of_mem _ (List.mem_append_right _ h)) (by decide +kernel))
set_option maxRecDepth 20000 in
theorem gL_calls_X1_tell : GoodIn wsL_calls (wsV RL 16 RX1 yX1_tell wsX1_tell) := goodIn_app (goodIn_of _ (by decide +kernel)) ggL_calls_X1_tell
set_option maxRecDepth 20000 in
theorem ggL_calls_X1_payBack : GoodIn wsL_calls wsX1_payBack := goodIn_ca (goodIn_ca (goodIn_ca (goodIn_r _ [54, 31, 32, 7, 8, 55, 35, 36, 37, 5, 38, 39, 40, 10, 56, 14, 57, 58, 59, 60, 119, 120, 121, 122, 123, 124, 125, 126, 127, 116, 117, 118] (by decide +kernel) (by decide +kernel)) (goodIn_sub (fun _ h => List.mem_cons_of_mem _ (List.mem_append_left _ (List.mem_append_right _ h))) (by decide +kernel))) (goodIn_sub (fun _ h => List.mem_cons_of_mem _ (List.mem_append_left _ (List.mem_append_left _ (List.mem_append_right _ h)))) (by decide +kernel))) (goodIn_sub (fun _ h => List.mem_cons_of_mem _ (List.mem_append_right _ h)) (by decide +kernel))
set_option maxRecDepth 20000 in
theorem gL_calls_X1_payBack : GoodIn wsL_calls (wsV RL 20 RX1 yX1_payBack wsX1_payBack) := goodIn_app (goodIn_of _ (by decide +kernel)) ggL_calls_X1_payBack
set_option maxRecDepth 20000 in
theorem ggL_calls_X1_close : GoodIn wsL_calls wsX1_close := goodIn_ca (goodIn_r _ [64, 7, 8, 11, 10, 65, 14, 66, 67, 59, 20, 25, 26, 68, 69, 70, 71, 72, 73, 74, 75, 76, 77, 78, 79, 23, 80, 81, 82, 83, 84, 85, 86, 87, 88, 89, 90, 91, 92, 93, 94, 95, 96, 97, 98, 99, 100, 101, 102, 103, 104, 105, 106, 107, 108, 109, 110, 111, 112, 113, 114, 115, 56, 57, 58, 60, 116, 117, 118, 119, 120, 121, 122, 123, 124, 125, 126, 127] (by decide +kernel) (by decide +kernel)) (goodIn_sub (fun _ h => List.mem_cons_of_mem _ (List.mem_append_left _ (List.mem_append_left _ (List.mem_append_right _ h)))) (by decide +kernel))
set_option maxRecDepth 20000 in
theorem gL_calls_X1_close : GoodIn wsL_calls (wsV RL 24 RX1 yX1_close wsX1_close) := goodIn_app (goodIn_of _ (by decide +kernel)) ggL_calls_X1_close
theorem dL_calls_0 : decode cL_calls 0 = .ok (.iload_n 1, 1) := by decide +kernel
theorem dL_calls_1 : decode cL_calls 1 = .ok (.ifCond .ne 10, 3) := by decide +kernel
theorem dL_calls_4 : decode cL_calls 4 = .ok (.aload_n 0, 1) := by decide +kernel
theorem dL_calls_5 : decode cL_calls 5 = .ok (.invokevirtual 10, 3) := by decide +kernel
theorem dL_calls_8 : decode cL_calls 8 = .ok (.goto 39, 3) := by decide +kernel
theorem dL_calls_11 : decode cL_calls 11 = .ok (.iload_n 1, 1) := by decide +kernel
theorem dL_calls_12 : decode cL_calls 12 = .ok (.iconst 1, 1) := by decide +kernel
theorem dL_calls_13 : decode cL_calls 13 = .ok (.if_icmp .ne 16, 3) := by decide +kernel
theorem dL_calls_16 : decode cL_calls 16 = .ok (.aload_n 0, 1) := by decide +kernel
theorem dL_calls_17 : decode cL_calls 17 = .ok (.iload_n 2, 1) := by decide +kernel
theorem dL_calls_18 : decode cL_calls 18 = .ok (.iload_n 3, 1) := by decide +kernel
theorem dL_calls_19 : decode cL_calls 19 = .ok (.iload 4, 2) := by decide +kernel
theorem dL_calls_21 : decode cL_calls 21 = .ok (.iload 5, 2) := by decide +kernel
theorem dL_calls_23 : decode cL_calls 23 = .ok (.invokevirtual 16, 3) := by decide +kernel
theorem dL_calls_26 : decode cL_calls 26 = .ok (.goto 21, 3) := by decide +kernel
theorem dL_calls_29 : decode cL_calls 29 = .ok (.iload_n 1, 1) := by decide +kernel
theorem dL_calls_30 : decode cL_calls 30 = .ok (.iconst 2, 1) := by decide +kernel
theorem dL_calls_31 : decode cL_calls 31 = .ok (.if_icmp .ne 12, 3) := by decide +kernel
theorem dL_calls_34 : decode cL_calls 34 = .ok (.aload_n 0, 1) := by decide +kernel
theorem dL_calls_35 : decode cL_calls 35 = .ok (.iload_n 2, 1) := by decide +kernel
theorem dL_calls_36 : decode cL_calls 36 = .ok (.iload_n 3, 1) := by decide +kernel
theorem dL_calls_37 : decode cL_calls 37 = .ok (.invokevirtual 20, 3) := by decide +kernel
theorem dL_calls_40 : decode cL_calls 40 = .ok (.goto 7, 3) := by decide +kernel
theorem dL_calls_43 : decode cL_calls 43 = .ok (.aload_n 0, 1) := by decide +kernel
theorem dL_calls_44 : decode cL_calls 44 = .ok (.invokevirtual 24, 3) := by decide +kernel
theorem dL_calls_47 : decode cL_calls 47 = .ok (.ireturn, 1) := by decide +kernel
theorem dL_calls_48 : decode cL_calls 48 = .ok (.astore 6, 2) := by decide +kernel
theorem dL_calls_50 : decode cL_calls 50 = .ok (.bipush (-3), 2) := by decide +kernel
theorem dL_calls_52 : decode cL_calls 52 = .ok (.ireturn, 1) := by decide +kernel
theorem dL_fact_0 : decode cL_fact 0 = .ok (.iload_n 1, 1) := by decide +kernel
theorem dL_fact_1 : decode cL_fact 1 = .ok (.ifCond .ne 7, 3) := by decide +kernel
theorem dL_fact_4 : decode cL_fact 4 = .ok (.iconst 1, 1) := by decide +kernel
theorem dL_fact_5 : decode cL_fact 5 = .ok (.goto 4, 3) := by decide +kernel
theorem dL_fact_8 : decode cL_fact 8 = .ok (.iconst 0, 1) := by decide +kernel
theorem dL_fact_9 : decode cL_fact 9 = .ok (.istore 6, 2) := by decide +kernel
theorem dL_fact_11 : decode cL_fact 11 = .ok (.iconst (-1), 1) := by decide +kernel
theorem dL_fact_12 : decode cL_fact 12 = .ok (.istore 7, 2) := by decide +kernel
theorem dL_fact_14 : decode cL_fact 14 = .ok (.iconst 0, 1) := by decide +kernel
theorem dL_fact_15 : decode cL_fact 15 = .ok (.istore 8, 2) := by decide +kernel
theorem dL_fact_17 : decode cL_fact 17 = .ok (.iload 8, 2) := by decide +kernel
theorem dL_fact_19 : decode cL_fact 19 = .ok (.aload 5, 2) := by decide +kernel
theorem dL_fact_21 : decode cL_fact 21 = .ok (.iconst 2, 1) := by decide +kernel
theorem dL_fact_22 : decode cL_fact 22 = .ok (.iaload, 1) := by decide +kernel
theorem dL_fact_23 : decode cL_fact 23 = .ok (.if_icmp .ge 92, 3) := by decide +kernel
theorem dL_fact_26 : decode cL_fact 26 = .ok (.aload_n 3, 1) := by decide +kernel
theorem dL_fact_27 : decode cL_fact 27 = .ok (.iload 8, 2) := by decide +kernel
theorem dL_fact_29 : decode cL_fact 29 = .ok (.iaload, 1) := by decide +kernel
theorem dL_fact_30 : decode cL_fact 30 = .ok (.bipush 16, 2) := by decide +kernel
theorem dL_fact_32 : decode cL_fact 32 = .ok (.idiv, 1) := by decide +kernel
theorem dL_fact_33 : decode cL_fact 33 = .ok (.istore 9, 2) := by decide +kernel
theorem dL_fact_35 : decode cL_fact 35 = .ok (.aload_n 3, 1) := by decide +kernel
theorem dL_fact_36 : decode cL_fact 36 = .ok (.iload 8, 2) := by decide +kernel
theorem dL_fact_38 : decode cL_fact 38 = .ok (.iaload, 1) := by decide +kernel
theorem dL_fact_39 : decode cL_fact 39 = .ok (.bipush 16, 2) := by decide +kernel
theorem dL_fact_41 : decode cL_fact 41 = .ok (.irem, 1) := by decide +kernel
theorem dL_fact_42 : decode cL_fact 42 = .ok (.bipush 8, 2) := by decide +kernel
theorem dL_fact_44 : decode cL_fact 44 = .ok (.iload_n 0, 1) := by decide +kernel
theorem dL_fact_45 : decode cL_fact 45 = .ok (.imul, 1) := by decide +kernel
theorem dL_fact_46 : decode cL_fact 46 = .ok (.iload_n 1, 1) := by decide +kernel
theorem dL_fact_47 : decode cL_fact 47 = .ok (.iadd, 1) := by decide +kernel
theorem dL_fact_48 : decode cL_fact 48 = .ok (.if_icmp .ne 13, 3) := by decide +kernel
theorem dL_fact_51 : decode cL_fact 51 = .ok (.iload 9, 2) := by decide +kernel
theorem dL_fact_53 : decode cL_fact 53 = .ok (.iload_n 2, 1) := by decide +kernel
theorem dL_fact_54 : decode cL_fact 54 = .ok (.if_icmp .gt 7, 3) := by decide +kernel
theorem dL_fact_57 : decode cL_fact 57 = .ok (.iconst 1, 1) := by decide +kernel
theorem dL_fact_58 : decode cL_fact 58 = .ok (.goto 4, 3) := by decide +kernel
theorem dL_fact_61 : decode cL_fact 61 = .ok (.iconst 0, 1) := by decide +kernel
theorem dL_fact_62 : decode cL_fact 62 = .ok (.istore 10, 2) := by decide +kernel
theorem dL_fact_64 : decode cL_fact 64 = .ok (.iload 10, 2) := by decide +kernel
theorem dL_fact_66 : decode cL_fact 66 = .ok (.ifCond .eq 18, 3) := by decide +kernel
theorem dL_fact_69 : decode cL_fact 69 = .ok (.iload 9, 2) := by decide +kernel
theorem dL_fact_71 : decode cL_fact 71 = .ok (.iload 7, 2) := by decide +kernel
theorem dL_fact_73 : decode cL_fact 73 = .ok (.if_icmp .lt 11, 3) := by decide +kernel
theorem dL_fact_76 : decode cL_fact 76 = .ok (.aload 4, 2) := by decide +kernel
theorem dL_fact_78 : decode cL_fact 78 = .ok (.iload 8, 2) := by decide +kernel
theorem dL_fact_80 : decode cL_fact 80 = .ok (.iaload, 1) := by decide +kernel
theorem dL_fact_81 : decode cL_fact 81 = .ok (.goto 5, 3) := by decide +kernel
theorem dL_fact_84 : decode cL_fact 84 = .ok (.iload 6, 2) := by decide +kernel
theorem dL_fact_86 : decode cL_fact 86 = .ok (.istore 6, 2) := by decide +kernel
theorem dL_fact_88 : decode cL_fact 88 = .ok (.iload 10, 2) := by decide +kernel
theorem dL_fact_90 : decode cL_fact 90 = .ok (.ifCond .eq 15, 3) := by decide +kernel
theorem dL_fact_93 : decode cL_fact 93 = .ok (.iload 9, 2) := by decide +kernel
theorem dL_fact_95 : decode cL_fact 95 = .ok (.iload 7, 2) := by decide +kernel
theorem dL_fact_97 : decode cL_fact 97 = .ok (.if_icmp .le 8, 3) := by decide +kernel
theorem dL_fact_100 : decode cL_fact 100 = .ok (.iload 9, 2) := by decide +kernel
theorem dL_fact_102 : decode cL_fact 102 = .ok (.goto 5, 3) := by decide +kernel
theorem dL_fact_105 : decode cL_fact 105 = .ok (.iload 7, 2) := by decide +kernel
theorem dL_fact_107 : decode cL_fact 107 = .ok (.istore 7, 2) := by decide +kernel
theorem dL_fact_109 : decode cL_fact 109 = .ok (.iinc 8 1, 3) := by decide +kernel
theorem dL_fact_112 : decode cL_fact 112 = .ok (.goto (-95), 3) := by decide +kernel
theorem dL_fact_115 : decode cL_fact 115 = .ok (.iload 6, 2) := by decide +kernel
theorem dL_fact_117 : decode cL_fact 117 = .ok (.ireturn, 1) := by decide +kernel
set_option maxRecDepth 20000 in
theorem ggL_need_L_fact : GoodIn wsL_need wsL_fact := goodIn_r _ [5] (by decide +kernel) (by decide +kernel)
set_option maxRecDepth 20000 in
theorem gL_need_L_fact : GoodIn wsL_need (va_wsS RL 29 yL_fact wsL_fact) := goodIn_app (goodIn_of _ (by decide +kernel)) ggL_need_L_fact
theorem dL_need_0 : decode cL_need 0 = .ok (.iload_n 0, 1) := by decide +kernel
theorem dL_need_1 : decode cL_need 1 = .ok (.iconst 2, 1) := by decide +kernel
theorem dL_need_2 : decode cL_need 2 = .ok (.iload_n 1, 1) := by decide +kernel
theorem dL_need_3 : decode cL_need 3 = .ok (.aload_n 2, 1) := by decide +kernel
theorem dL_need_4 : decode cL_need 4 = .ok (.aload_n 3, 1) := by decide +kernel
theorem dL_need_5 : decode cL_need 5 = .ok (.aload 4, 2) := by decide +kernel
theorem dL_need_7 : decode cL_need 7 = .ok (.invokestatic 29, 3) := by decide +kernel
theorem dL_need_10 : decode cL_need 10 = .ok (.istore 5, 2) := by decide +kernel
theorem dL_need_12 : decode cL_need 12 = .ok (.sipush 18000, 3) := by decide +kernel
theorem dL_need_15 : decode cL_need 15 = .ok (.sipush 12000, 3) := by decide +kernel
theorem dL_need_18 : decode cL_need 18 = .ok (.iload_n 0, 1) := by decide +kernel
theorem dL_need_19 : decode cL_need 19 = .ok (.iconst 0, 1) := by decide +kernel
theorem dL_need_20 : decode cL_need 20 = .ok (.iload_n 1, 1) := by decide +kernel
theorem dL_need_21 : decode cL_need 21 = .ok (.aload_n 2, 1) := by decide +kernel
theorem dL_need_22 : decode cL_need 22 = .ok (.aload_n 3, 1) := by decide +kernel
theorem dL_need_23 : decode cL_need 23 = .ok (.aload 4, 2) := by decide +kernel
theorem dL_need_25 : decode cL_need 25 = .ok (.invokestatic 29, 3) := by decide +kernel
theorem dL_need_28 : decode cL_need 28 = .ok (.imul, 1) := by decide +kernel
theorem dL_need_29 : decode cL_need 29 = .ok (.iadd, 1) := by decide +kernel
theorem dL_need_30 : decode cL_need 30 = .ok (.sipush 8000, 3) := by decide +kernel
theorem dL_need_33 : decode cL_need 33 = .ok (.iload_n 0, 1) := by decide +kernel
theorem dL_need_34 : decode cL_need 34 = .ok (.iconst 1, 1) := by decide +kernel
theorem dL_need_35 : decode cL_need 35 = .ok (.iload_n 1, 1) := by decide +kernel
theorem dL_need_36 : decode cL_need 36 = .ok (.aload_n 2, 1) := by decide +kernel
theorem dL_need_37 : decode cL_need 37 = .ok (.aload_n 3, 1) := by decide +kernel
theorem dL_need_38 : decode cL_need 38 = .ok (.aload 4, 2) := by decide +kernel
theorem dL_need_40 : decode cL_need 40 = .ok (.invokestatic 29, 3) := by decide +kernel
theorem dL_need_43 : decode cL_need 43 = .ok (.imul, 1) := by decide +kernel
theorem dL_need_44 : decode cL_need 44 = .ok (.iadd, 1) := by decide +kernel
theorem dL_need_45 : decode cL_need 45 = .ok (.iload 5, 2) := by decide +kernel
theorem dL_need_47 : decode cL_need 47 = .ok (.ldc 35, 2) := by decide +kernel
theorem dL_need_49 : decode cL_need 49 = .ok (.if_icmp .le 8, 3) := by decide +kernel
theorem dL_need_52 : decode cL_need 52 = .ok (.ldc 35, 2) := by decide +kernel
theorem dL_need_54 : decode cL_need 54 = .ok (.goto 5, 3) := by decide +kernel
theorem dL_need_57 : decode cL_need 57 = .ok (.iload 5, 2) := by decide +kernel
theorem dL_need_59 : decode cL_need 59 = .ok (.iadd, 1) := by decide +kernel
theorem dL_need_60 : decode cL_need 60 = .ok (.ireturn, 1) := by decide +kernel
set_option maxRecDepth 20000 in
theorem ggL_taper_L_fact : GoodIn wsL_taper wsL_fact := goodIn_r _ [7] (by decide +kernel) (by decide +kernel)
set_option maxRecDepth 20000 in
theorem gL_taper_L_fact : GoodIn wsL_taper (va_wsS RL 29 yL_fact wsL_fact) := goodIn_app (goodIn_of _ (by decide +kernel)) ggL_taper_L_fact
theorem dL_taper_0 : decode cL_taper 0 = .ok (.iload_n 0, 1) := by decide +kernel
theorem dL_taper_1 : decode cL_taper 1 = .ok (.iconst 3, 1) := by decide +kernel
theorem dL_taper_2 : decode cL_taper 2 = .ok (.iload_n 1, 1) := by decide +kernel
theorem dL_taper_3 : decode cL_taper 3 = .ok (.aload_n 2, 1) := by decide +kernel
theorem dL_taper_4 : decode cL_taper 4 = .ok (.aload_n 3, 1) := by decide +kernel
theorem dL_taper_5 : decode cL_taper 5 = .ok (.aload 4, 2) := by decide +kernel
theorem dL_taper_7 : decode cL_taper 7 = .ok (.invokestatic 29, 3) := by decide +kernel
theorem dL_taper_10 : decode cL_taper 10 = .ok (.istore 5, 2) := by decide +kernel
theorem dL_taper_12 : decode cL_taper 12 = .ok (.iload 5, 2) := by decide +kernel
theorem dL_taper_14 : decode cL_taper 14 = .ok (.sipush 20000, 3) := by decide +kernel
theorem dL_taper_17 : decode cL_taper 17 = .ok (.if_icmp .ge 7, 3) := by decide +kernel
theorem dL_taper_20 : decode cL_taper 20 = .ok (.iconst 0, 1) := by decide +kernel
theorem dL_taper_21 : decode cL_taper 21 = .ok (.goto 19, 3) := by decide +kernel
theorem dL_taper_24 : decode cL_taper 24 = .ok (.iload 5, 2) := by decide +kernel
theorem dL_taper_26 : decode cL_taper 26 = .ok (.i2l, 1) := by decide +kernel
theorem dL_taper_27 : decode cL_taper 27 = .ok (.ldc2_w 36, 3) := by decide +kernel
theorem dL_taper_30 : decode cL_taper 30 = .ok (.lsub, 1) := by decide +kernel
theorem dL_taper_31 : decode cL_taper 31 = .ok (.ldc2_w 38, 3) := by decide +kernel
theorem dL_taper_34 : decode cL_taper 34 = .ok (.lmul, 1) := by decide +kernel
theorem dL_taper_35 : decode cL_taper 35 = .ok (.ldc2_w 40, 3) := by decide +kernel
theorem dL_taper_38 : decode cL_taper 38 = .ok (.ldiv, 1) := by decide +kernel
theorem dL_taper_39 : decode cL_taper 39 = .ok (.l2i, 1) := by decide +kernel
theorem dL_taper_40 : decode cL_taper 40 = .ok (.ireturn, 1) := by decide +kernel
set_option maxRecDepth 20000 in
theorem ggL_tariff_L_fact : GoodIn wsL_tariff wsL_fact := goodIn_r _ [5] (by decide +kernel) (by decide +kernel)
set_option maxRecDepth 20000 in
theorem gL_tariff_L_fact : GoodIn wsL_tariff (va_wsS RL 29 yL_fact wsL_fact) := goodIn_app (goodIn_of _ (by decide +kernel)) ggL_tariff_L_fact
theorem dL_tariff_0 : decode cL_tariff 0 = .ok (.iconst 0, 1) := by decide +kernel
theorem dL_tariff_1 : decode cL_tariff 1 = .ok (.istore 5, 2) := by decide +kernel
theorem dL_tariff_3 : decode cL_tariff 3 = .ok (.iload_n 0, 1) := by decide +kernel
theorem dL_tariff_4 : decode cL_tariff 4 = .ok (.iconst 4, 1) := by decide +kernel
theorem dL_tariff_5 : decode cL_tariff 5 = .ok (.iload_n 1, 1) := by decide +kernel
theorem dL_tariff_6 : decode cL_tariff 6 = .ok (.aload_n 2, 1) := by decide +kernel
theorem dL_tariff_7 : decode cL_tariff 7 = .ok (.aload_n 3, 1) := by decide +kernel
theorem dL_tariff_8 : decode cL_tariff 8 = .ok (.aload 4, 2) := by decide +kernel
theorem dL_tariff_10 : decode cL_tariff 10 = .ok (.invokestatic 29, 3) := by decide +kernel
theorem dL_tariff_13 : decode cL_tariff 13 = .ok (.ldc 42, 2) := by decide +kernel
theorem dL_tariff_15 : decode cL_tariff 15 = .ok (.isub, 1) := by decide +kernel
theorem dL_tariff_16 : decode cL_tariff 16 = .ok (.istore 6, 2) := by decide +kernel
theorem dL_tariff_18 : decode cL_tariff 18 = .ok (.iload 6, 2) := by decide +kernel
theorem dL_tariff_20 : decode cL_tariff 20 = .ok (.ifCond .le 18, 3) := by decide +kernel
theorem dL_tariff_23 : decode cL_tariff 23 = .ok (.iinc 5 500, 6) := by decide +kernel
theorem dL_tariff_29 : decode cL_tariff 29 = .ok (.iinc 6 (-25000), 6) := by decide +kernel
theorem dL_tariff_35 : decode cL_tariff 35 = .ok (.goto (-17), 3) := by decide +kernel
theorem dL_tariff_38 : decode cL_tariff 38 = .ok (.iload 5, 2) := by decide +kernel
theorem dL_tariff_40 : decode cL_tariff 40 = .ok (.ireturn, 1) := by decide +kernel
set_option maxRecDepth 20000 in
theorem ggL_due_L_need : GoodIn wsL_due wsL_need := goodIn_r _ [5, 6, 7, 8, 4, 9] (by decide +kernel) (by decide +kernel)
set_option maxRecDepth 20000 in
theorem gL_due_L_need : GoodIn wsL_due (va_wsS RL 43 yL_need wsL_need) := goodIn_app (goodIn_of _ (by decide +kernel)) ggL_due_L_need
set_option maxRecDepth 20000 in
theorem ggL_due_L_taper : GoodIn wsL_due wsL_taper := goodIn_r _ [12, 13, 14, 15, 7, 8, 4, 9] (by decide +kernel) (by decide +kernel)
set_option maxRecDepth 20000 in
theorem gL_due_L_taper : GoodIn wsL_due (va_wsS RL 47 yL_taper wsL_taper) := goodIn_app (goodIn_of _ (by decide +kernel)) ggL_due_L_taper
set_option maxRecDepth 20000 in
theorem ggL_due_L_tariff : GoodIn wsL_due wsL_tariff := goodIn_r _ [18, 19, 7, 8, 4, 9] (by decide +kernel) (by decide +kernel)
set_option maxRecDepth 20000 in
theorem gL_due_L_tariff : GoodIn wsL_due (va_wsS RL 50 yL_tariff wsL_tariff) := goodIn_app (goodIn_of _ (by decide +kernel)) ggL_due_L_tariff
set_option maxRecDepth 20000 in
theorem ggL_due_L_fact : GoodIn wsL_due wsL_fact := goodIn_r _ [9] (by decide +kernel) (by decide +kernel)
set_option maxRecDepth 20000 in
theorem gL_due_L_fact : GoodIn wsL_due (va_wsS RL 29 yL_fact wsL_fact) := goodIn_app (goodIn_of _ (by decide +kernel)) ggL_due_L_fact
theorem dL_due_0 : decode cL_due 0 = .ok (.iload_n 0, 1) := by decide +kernel
theorem dL_due_1 : decode cL_due 1 = .ok (.iload_n 1, 1) := by decide +kernel
theorem dL_due_2 : decode cL_due 2 = .ok (.aload_n 2, 1) := by decide +kernel
theorem dL_due_3 : decode cL_due 3 = .ok (.aload_n 3, 1) := by decide +kernel
theorem dL_due_4 : decode cL_due 4 = .ok (.aload 4, 2) := by decide +kernel
theorem dL_due_6 : decode cL_due 6 = .ok (.invokestatic 43, 3) := by decide +kernel
theorem dL_due_9 : decode cL_due 9 = .ok (.iload_n 0, 1) := by decide +kernel
theorem dL_due_10 : decode cL_due 10 = .ok (.iload_n 1, 1) := by decide +kernel
theorem dL_due_11 : decode cL_due 11 = .ok (.aload_n 2, 1) := by decide +kernel
theorem dL_due_12 : decode cL_due 12 = .ok (.aload_n 3, 1) := by decide +kernel
theorem dL_due_13 : decode cL_due 13 = .ok (.aload 4, 2) := by decide +kernel
theorem dL_due_15 : decode cL_due 15 = .ok (.invokestatic 47, 3) := by decide +kernel
theorem dL_due_18 : decode cL_due 18 = .ok (.isub, 1) := by decide +kernel
theorem dL_due_19 : decode cL_due 19 = .ok (.iload_n 0, 1) := by decide +kernel
theorem dL_due_20 : decode cL_due 20 = .ok (.iload_n 1, 1) := by decide +kernel
theorem dL_due_21 : decode cL_due 21 = .ok (.aload_n 2, 1) := by decide +kernel
theorem dL_due_22 : decode cL_due 22 = .ok (.aload_n 3, 1) := by decide +kernel
theorem dL_due_23 : decode cL_due 23 = .ok (.aload 4, 2) := by decide +kernel
theorem dL_due_25 : decode cL_due 25 = .ok (.invokestatic 50, 3) := by decide +kernel
theorem dL_due_28 : decode cL_due 28 = .ok (.isub, 1) := by decide +kernel
theorem dL_due_29 : decode cL_due 29 = .ok (.istore 5, 2) := by decide +kernel
theorem dL_due_31 : decode cL_due 31 = .ok (.iload_n 0, 1) := by decide +kernel
theorem dL_due_32 : decode cL_due 32 = .ok (.iconst 4, 1) := by decide +kernel
theorem dL_due_33 : decode cL_due 33 = .ok (.iload_n 1, 1) := by decide +kernel
theorem dL_due_34 : decode cL_due 34 = .ok (.aload_n 2, 1) := by decide +kernel
theorem dL_due_35 : decode cL_due 35 = .ok (.aload_n 3, 1) := by decide +kernel
