theorem dX0_lowerDebt_20 : decode cX0_lowerDebt 20 = .ok (.return_, 1) := by decide +kernel
theorem dX1_init_0 : decode cX1_init 0 = .ok (.aload_n 0, 1) := by decide +kernel
theorem dX1_init_1 : decode cX1_init 1 = .ok (.invokespecial 1, 3) := by decide +kernel
theorem dX1_init_4 : decode cX1_init 4 = .ok (.aload_n 0, 1) := by decide +kernel
theorem dX1_init_5 : decode cX1_init 5 = .ok (.bipush 6, 2) := by decide +kernel
theorem dX1_init_7 : decode cX1_init 7 = .ok (.anewarray 9, 3) := by decide +kernel
theorem dX1_init_10 : decode cX1_init 10 = .ok (.putfield 11, 3) := by decide +kernel
theorem dX1_init_13 : decode cX1_init 13 = .ok (.aload_n 0, 1) := by decide +kernel
theorem dX1_init_14 : decode cX1_init 14 = .ok (.iconst 0, 1) := by decide +kernel
theorem dX1_init_15 : decode cX1_init 15 = .ok (.putfield 15, 3) := by decide +kernel
theorem dX1_init_18 : decode cX1_init 18 = .ok (.aload_n 0, 1) := by decide +kernel
theorem dX1_init_19 : decode cX1_init 19 = .ok (.iconst 0, 1) := by decide +kernel
theorem dX1_init_20 : decode cX1_init 20 = .ok (.putfield 19, 3) := by decide +kernel
theorem dX1_init_23 : decode cX1_init 23 = .ok (.return_, 1) := by decide +kernel
set_option maxRecDepth 20000 in
theorem ggX1_add_X0_init : GoodIn wsX1_add wsX0_init := goodIn_r _ [10, 11, 12, 13, 14, 15, 16, 17, 18, 19, 20, 24, 25, 26, 27, 28, 29, 30, 31, 32] (by decide +kernel) (by decide +kernel)
set_option maxRecDepth 20000 in
theorem gX1_add_X0_init_n31 : GoodIn wsX1_add (wsX0_init) := ggX1_add_X0_init
theorem dX1_add_0 : decode cX1_add 0 = .ok (.aload_n 0, 1) := by decide +kernel
theorem dX1_add_1 : decode cX1_add 1 = .ok (.getfield 15, 3) := by decide +kernel
theorem dX1_add_4 : decode cX1_add 4 = .ok (.ifCond .lt 15, 3) := by decide +kernel
theorem dX1_add_7 : decode cX1_add 7 = .ok (.aload_n 0, 1) := by decide +kernel
theorem dX1_add_8 : decode cX1_add 8 = .ok (.getfield 15, 3) := by decide +kernel
theorem dX1_add_11 : decode cX1_add 11 = .ok (.aload_n 0, 1) := by decide +kernel
theorem dX1_add_12 : decode cX1_add 12 = .ok (.getfield 11, 3) := by decide +kernel
theorem dX1_add_15 : decode cX1_add 15 = .ok (.arraylength, 1) := by decide +kernel
theorem dX1_add_16 : decode cX1_add 16 = .ok (.if_icmp .lt 13, 3) := by decide +kernel
theorem dX1_add_19 : decode cX1_add 19 = .ok (.new 22, 3) := by decide +kernel
theorem dX1_add_22 : decode cX1_add 22 = .ok (.dup, 1) := by decide +kernel
theorem dX1_add_23 : decode cX1_add 23 = .ok (.ldc 24, 2) := by decide +kernel
theorem dX1_add_25 : decode cX1_add 25 = .ok (.invokespecial 26, 3) := by decide +kernel
theorem dX1_add_28 : decode cX1_add 28 = .ok (.athrow, 1) := by decide +kernel
theorem dX1_add_29 : decode cX1_add 29 = .ok (.aload_n 0, 1) := by decide +kernel
theorem dX1_add_30 : decode cX1_add 30 = .ok (.getfield 19, 3) := by decide +kernel
theorem dX1_add_33 : decode cX1_add 33 = .ok (.bipush 48, 2) := by decide +kernel
theorem dX1_add_35 : decode cX1_add 35 = .ok (.if_icmp .lt 13, 3) := by decide +kernel
theorem dX1_add_38 : decode cX1_add 38 = .ok (.new 22, 3) := by decide +kernel
theorem dX1_add_41 : decode cX1_add 41 = .ok (.dup, 1) := by decide +kernel
theorem dX1_add_42 : decode cX1_add 42 = .ok (.ldc 29, 2) := by decide +kernel
theorem dX1_add_44 : decode cX1_add 44 = .ok (.invokespecial 26, 3) := by decide +kernel
theorem dX1_add_47 : decode cX1_add 47 = .ok (.athrow, 1) := by decide +kernel
theorem dX1_add_48 : decode cX1_add 48 = .ok (.aload_n 0, 1) := by decide +kernel
theorem dX1_add_49 : decode cX1_add 49 = .ok (.getfield 15, 3) := by decide +kernel
theorem dX1_add_52 : decode cX1_add 52 = .ok (.istore_n 1, 1) := by decide +kernel
theorem dX1_add_53 : decode cX1_add 53 = .ok (.aload_n 0, 1) := by decide +kernel
theorem dX1_add_54 : decode cX1_add 54 = .ok (.getfield 11, 3) := by decide +kernel
theorem dX1_add_57 : decode cX1_add 57 = .ok (.iload_n 1, 1) := by decide +kernel
theorem dX1_add_58 : decode cX1_add 58 = .ok (.new 9, 3) := by decide +kernel
theorem dX1_add_61 : decode cX1_add 61 = .ok (.dup, 1) := by decide +kernel
theorem dX1_add_62 : decode cX1_add 62 = .ok (.aload_n 0, 1) := by decide +kernel
theorem dX1_add_63 : decode cX1_add 63 = .ok (.getfield 19, 3) := by decide +kernel
theorem dX1_add_66 : decode cX1_add 66 = .ok (.invokespecial 31, 3) := by decide +kernel
theorem dX1_add_69 : decode cX1_add 69 = .ok (.aastore, 1) := by decide +kernel
theorem dX1_add_70 : decode cX1_add 70 = .ok (.aload_n 0, 1) := by decide +kernel
theorem dX1_add_71 : decode cX1_add 71 = .ok (.iload_n 1, 1) := by decide +kernel
theorem dX1_add_72 : decode cX1_add 72 = .ok (.iconst 1, 1) := by decide +kernel
theorem dX1_add_73 : decode cX1_add 73 = .ok (.iadd, 1) := by decide +kernel
theorem dX1_add_74 : decode cX1_add 74 = .ok (.putfield 15, 3) := by decide +kernel
theorem dX1_add_77 : decode cX1_add 77 = .ok (.iload_n 1, 1) := by decide +kernel
theorem dX1_add_78 : decode cX1_add 78 = .ok (.ireturn, 1) := by decide +kernel
set_option maxRecDepth 20000 in
theorem ggX1_tell_X1_existing : GoodIn wsX1_tell wsX1_existing := goodIn_ca (goodIn_r _ [11, 12, 13, 14, 37, 38, 39] (by decide +kernel) (by decide +kernel)) (goodIn_sub (fun _ h => List.mem_cons_of_mem _ (List.mem_append_right _ h)) (by decide +kernel))
set_option maxRecDepth 20000 in
theorem gX1_tell_X1_existing : GoodIn wsX1_tell (wsV RX1 34 RX1 yX1_existing wsX1_existing) := goodIn_app (goodIn_of _ (by decide +kernel)) ggX1_tell_X1_existing
set_option maxRecDepth 20000 in
theorem ggX1_tell_X1_checkFact : GoodIn wsX1_tell wsX1_checkFact := goodIn_ca (goodIn_r _ [17, 1, 2] (by decide +kernel) (by decide +kernel)) (goodIn_sub (fun _ h => List.mem_cons_of_mem _ (List.mem_append_left _ (List.mem_append_left _ (List.mem_append_right _ h)))) (by decide +kernel))
set_option maxRecDepth 20000 in
theorem gX1_tell_X1_checkFact : GoodIn wsX1_tell (va_wsS RX1 38 yX1_checkFact wsX1_checkFact) := goodIn_app (goodIn_of _ (by decide +kernel)) ggX1_tell_X1_checkFact
set_option maxRecDepth 20000 in
theorem ggX1_tell_X1_monthCountedFrom : GoodIn wsX1_tell wsX1_monthCountedFrom := goodIn_r _ [20] (by decide +kernel) (by decide +kernel)
set_option maxRecDepth 20000 in
theorem gX1_tell_X1_monthCountedFrom : GoodIn wsX1_tell (va_wsS RX1 60 yX1_monthCountedFrom wsX1_monthCountedFrom) := goodIn_app (goodIn_of _ (by decide +kernel)) ggX1_tell_X1_monthCountedFrom
set_option maxRecDepth 20000 in
theorem ggX1_tell_X0_change : GoodIn wsX1_tell wsX0_change := goodIn_r _ [24, 25, 26, 27, 28, 29, 30, 31, 32, 33, 34, 35, 36] (by decide +kernel) (by decide +kernel)
set_option maxRecDepth 20000 in
theorem gX1_tell_X0_change_n64 : GoodIn wsX1_tell (wsX0_change) := ggX1_tell_X0_change
theorem dX1_tell_0 : decode cX1_tell 0 = .ok (.aload_n 0, 1) := by decide +kernel
theorem dX1_tell_1 : decode cX1_tell 1 = .ok (.iload_n 1, 1) := by decide +kernel
theorem dX1_tell_2 : decode cX1_tell 2 = .ok (.invokevirtual 34, 3) := by decide +kernel
theorem dX1_tell_5 : decode cX1_tell 5 = .ok (.astore 5, 2) := by decide +kernel
theorem dX1_tell_7 : decode cX1_tell 7 = .ok (.iload_n 2, 1) := by decide +kernel
theorem dX1_tell_8 : decode cX1_tell 8 = .ok (.invokestatic 38, 3) := by decide +kernel
theorem dX1_tell_11 : decode cX1_tell 11 = .ok (.iload_n 3, 1) := by decide +kernel
theorem dX1_tell_12 : decode cX1_tell 12 = .ok (.ifCond .lt 10, 3) := by decide +kernel
theorem dX1_tell_15 : decode cX1_tell 15 = .ok (.iload_n 3, 1) := by decide +kernel
theorem dX1_tell_16 : decode cX1_tell 16 = .ok (.sipush 1440, 3) := by decide +kernel
theorem dX1_tell_19 : decode cX1_tell 19 = .ok (.if_icmp .lt 13, 3) := by decide +kernel
theorem dX1_tell_22 : decode cX1_tell 22 = .ok (.new 41, 3) := by decide +kernel
theorem dX1_tell_25 : decode cX1_tell 25 = .ok (.dup, 1) := by decide +kernel
theorem dX1_tell_26 : decode cX1_tell 26 = .ok (.ldc 43, 2) := by decide +kernel
theorem dX1_tell_28 : decode cX1_tell 28 = .ok (.invokespecial 45, 3) := by decide +kernel
theorem dX1_tell_31 : decode cX1_tell 31 = .ok (.athrow, 1) := by decide +kernel
theorem dX1_tell_32 : decode cX1_tell 32 = .ok (.iload 4, 2) := by decide +kernel
theorem dX1_tell_34 : decode cX1_tell 34 = .ok (.getstatic 46, 3) := by decide +kernel
theorem dX1_tell_37 : decode cX1_tell 37 = .ok (.iload_n 2, 1) := by decide +kernel
theorem dX1_tell_38 : decode cX1_tell 38 = .ok (.iaload, 1) := by decide +kernel
theorem dX1_tell_39 : decode cX1_tell 39 = .ok (.if_icmp .lt 13, 3) := by decide +kernel
theorem dX1_tell_42 : decode cX1_tell 42 = .ok (.iload 4, 2) := by decide +kernel
theorem dX1_tell_44 : decode cX1_tell 44 = .ok (.getstatic 50, 3) := by decide +kernel
theorem dX1_tell_47 : decode cX1_tell 47 = .ok (.iload_n 2, 1) := by decide +kernel
theorem dX1_tell_48 : decode cX1_tell 48 = .ok (.iaload, 1) := by decide +kernel
theorem dX1_tell_49 : decode cX1_tell 49 = .ok (.if_icmp .le 13, 3) := by decide +kernel
theorem dX1_tell_52 : decode cX1_tell 52 = .ok (.new 41, 3) := by decide +kernel
theorem dX1_tell_55 : decode cX1_tell 55 = .ok (.dup, 1) := by decide +kernel
theorem dX1_tell_56 : decode cX1_tell 56 = .ok (.ldc 53, 2) := by decide +kernel
theorem dX1_tell_58 : decode cX1_tell 58 = .ok (.invokespecial 45, 3) := by decide +kernel
theorem dX1_tell_61 : decode cX1_tell 61 = .ok (.athrow, 1) := by decide +kernel
theorem dX1_tell_62 : decode cX1_tell 62 = .ok (.aload 5, 2) := by decide +kernel
theorem dX1_tell_64 : decode cX1_tell 64 = .ok (.getfield 55, 3) := by decide +kernel
theorem dX1_tell_67 : decode cX1_tell 67 = .ok (.bipush 100, 2) := by decide +kernel
theorem dX1_tell_69 : decode cX1_tell 69 = .ok (.if_icmp .lt 13, 3) := by decide +kernel
theorem dX1_tell_72 : decode cX1_tell 72 = .ok (.new 22, 3) := by decide +kernel
theorem dX1_tell_75 : decode cX1_tell 75 = .ok (.dup, 1) := by decide +kernel
theorem dX1_tell_76 : decode cX1_tell 76 = .ok (.ldc 58, 2) := by decide +kernel
theorem dX1_tell_78 : decode cX1_tell 78 = .ok (.invokespecial 26, 3) := by decide +kernel
theorem dX1_tell_81 : decode cX1_tell 81 = .ok (.athrow, 1) := by decide +kernel
theorem dX1_tell_82 : decode cX1_tell 82 = .ok (.iload_n 3, 1) := by decide +kernel
theorem dX1_tell_83 : decode cX1_tell 83 = .ok (.invokestatic 60, 3) := by decide +kernel
theorem dX1_tell_86 : decode cX1_tell 86 = .ok (.istore 6, 2) := by decide +kernel
theorem dX1_tell_88 : decode cX1_tell 88 = .ok (.aload 5, 2) := by decide +kernel
theorem dX1_tell_90 : decode cX1_tell 90 = .ok (.iload_n 2, 1) := by decide +kernel
theorem dX1_tell_91 : decode cX1_tell 91 = .ok (.iload 6, 2) := by decide +kernel
theorem dX1_tell_93 : decode cX1_tell 93 = .ok (.iload 4, 2) := by decide +kernel
theorem dX1_tell_95 : decode cX1_tell 95 = .ok (.invokevirtual 64, 3) := by decide +kernel
theorem dX1_tell_98 : decode cX1_tell 98 = .ok (.iload 6, 2) := by decide +kernel
theorem dX1_tell_100 : decode cX1_tell 100 = .ok (.ireturn, 1) := by decide +kernel
set_option maxRecDepth 20000 in
theorem ggX1_dispute_X1_existing : GoodIn wsX1_dispute wsX1_existing := goodIn_ca (goodIn_r _ [5, 6, 7, 8, 18, 19, 20] (by decide +kernel) (by decide +kernel)) (goodIn_sub (fun _ h => List.mem_cons_of_mem _ (List.mem_append_right _ h)) (by decide +kernel))
set_option maxRecDepth 20000 in
theorem gX1_dispute_X1_existing : GoodIn wsX1_dispute (wsV RX1 34 RX1 yX1_existing wsX1_existing) := goodIn_app (goodIn_of _ (by decide +kernel)) ggX1_dispute_X1_existing
theorem dX1_dispute_0 : decode cX1_dispute 0 = .ok (.aload_n 0, 1) := by decide +kernel
theorem dX1_dispute_1 : decode cX1_dispute 1 = .ok (.iload_n 1, 1) := by decide +kernel
theorem dX1_dispute_2 : decode cX1_dispute 2 = .ok (.invokevirtual 34, 3) := by decide +kernel
theorem dX1_dispute_5 : decode cX1_dispute 5 = .ok (.astore_n 3, 1) := by decide +kernel
theorem dX1_dispute_6 : decode cX1_dispute 6 = .ok (.aload_n 3, 1) := by decide +kernel
theorem dX1_dispute_7 : decode cX1_dispute 7 = .ok (.getfield 68, 3) := by decide +kernel
theorem dX1_dispute_10 : decode cX1_dispute 10 = .ok (.istore 4, 2) := by decide +kernel
theorem dX1_dispute_12 : decode cX1_dispute 12 = .ok (.aload_n 3, 1) := by decide +kernel
theorem dX1_dispute_13 : decode cX1_dispute 13 = .ok (.iload_n 2, 1) := by decide +kernel
theorem dX1_dispute_14 : decode cX1_dispute 14 = .ok (.putfield 68, 3) := by decide +kernel
theorem dX1_dispute_17 : decode cX1_dispute 17 = .ok (.iload 4, 2) := by decide +kernel
theorem dX1_dispute_19 : decode cX1_dispute 19 = .ok (.ireturn, 1) := by decide +kernel
set_option maxRecDepth 20000 in
theorem ggX1_payBack_X1_existing : GoodIn wsX1_payBack wsX1_existing := goodIn_ca (goodIn_r _ [10, 11, 12, 13, 29, 30, 31] (by decide +kernel) (by decide +kernel)) (goodIn_sub (fun _ h => List.mem_cons_of_mem _ (List.mem_append_right _ h)) (by decide +kernel))
set_option maxRecDepth 20000 in
theorem gX1_payBack_X1_existing : GoodIn wsX1_payBack (wsV RX1 34 RX1 yX1_existing wsX1_existing) := goodIn_app (goodIn_of _ (by decide +kernel)) ggX1_payBack_X1_existing
set_option maxRecDepth 20000 in
theorem ggX1_payBack_X0_lowerDebt : GoodIn wsX1_payBack wsX0_lowerDebt := goodIn_r _ [17, 18, 19, 20, 21, 22, 23, 24, 25, 26, 27, 28] (by decide +kernel) (by decide +kernel)
set_option maxRecDepth 20000 in
theorem gX1_payBack_X0_lowerDebt_n80 : GoodIn wsX1_payBack (wsX0_lowerDebt) := ggX1_payBack_X0_lowerDebt
theorem dX1_payBack_0 : decode cX1_payBack 0 = .ok (.aload_n 0, 1) := by decide +kernel
theorem dX1_payBack_1 : decode cX1_payBack 1 = .ok (.iload_n 1, 1) := by decide +kernel
theorem dX1_payBack_2 : decode cX1_payBack 2 = .ok (.invokevirtual 34, 3) := by decide +kernel
theorem dX1_payBack_5 : decode cX1_payBack 5 = .ok (.astore_n 3, 1) := by decide +kernel
theorem dX1_payBack_6 : decode cX1_payBack 6 = .ok (.iload_n 2, 1) := by decide +kernel
theorem dX1_payBack_7 : decode cX1_payBack 7 = .ok (.iconst 1, 1) := by decide +kernel
theorem dX1_payBack_8 : decode cX1_payBack 8 = .ok (.if_icmp .lt 9, 3) := by decide +kernel
theorem dX1_payBack_11 : decode cX1_payBack 11 = .ok (.iload_n 2, 1) := by decide +kernel
theorem dX1_payBack_12 : decode cX1_payBack 12 = .ok (.ldc 72, 2) := by decide +kernel
theorem dX1_payBack_14 : decode cX1_payBack 14 = .ok (.if_icmp .le 13, 3) := by decide +kernel
theorem dX1_payBack_17 : decode cX1_payBack 17 = .ok (.new 41, 3) := by decide +kernel
theorem dX1_payBack_20 : decode cX1_payBack 20 = .ok (.dup, 1) := by decide +kernel
theorem dX1_payBack_21 : decode cX1_payBack 21 = .ok (.ldc 73, 2) := by decide +kernel
theorem dX1_payBack_23 : decode cX1_payBack 23 = .ok (.invokespecial 45, 3) := by decide +kernel
theorem dX1_payBack_26 : decode cX1_payBack 26 = .ok (.athrow, 1) := by decide +kernel
theorem dX1_payBack_27 : decode cX1_payBack 27 = .ok (.aload_n 3, 1) := by decide +kernel
theorem dX1_payBack_28 : decode cX1_payBack 28 = .ok (.getfield 75, 3) := by decide +kernel
theorem dX1_payBack_31 : decode cX1_payBack 31 = .ok (.iload_n 2, 1) := by decide +kernel
theorem dX1_payBack_32 : decode cX1_payBack 32 = .ok (.if_icmp .ge 13, 3) := by decide +kernel
theorem dX1_payBack_35 : decode cX1_payBack 35 = .ok (.new 22, 3) := by decide +kernel
theorem dX1_payBack_38 : decode cX1_payBack 38 = .ok (.dup, 1) := by decide +kernel
theorem dX1_payBack_39 : decode cX1_payBack 39 = .ok (.ldc 78, 2) := by decide +kernel
theorem dX1_payBack_41 : decode cX1_payBack 41 = .ok (.invokespecial 26, 3) := by decide +kernel
theorem dX1_payBack_44 : decode cX1_payBack 44 = .ok (.athrow, 1) := by decide +kernel
theorem dX1_payBack_45 : decode cX1_payBack 45 = .ok (.aload_n 3, 1) := by decide +kernel
theorem dX1_payBack_46 : decode cX1_payBack 46 = .ok (.iload_n 2, 1) := by decide +kernel
theorem dX1_payBack_47 : decode cX1_payBack 47 = .ok (.invokevirtual 80, 3) := by decide +kernel
theorem dX1_payBack_50 : decode cX1_payBack 50 = .ok (.aload_n 3, 1) := by decide +kernel
theorem dX1_payBack_51 : decode cX1_payBack 51 = .ok (.getfield 75, 3) := by decide +kernel
theorem dX1_payBack_54 : decode cX1_payBack 54 = .ok (.ireturn, 1) := by decide +kernel
theorem dX1_households_0 : decode cX1_households 0 = .ok (.aload_n 0, 1) := by decide +kernel
theorem dX1_households_1 : decode cX1_households 1 = .ok (.getfield 15, 3) := by decide +kernel
theorem dX1_households_4 : decode cX1_households 4 = .ok (.ireturn, 1) := by decide +kernel
set_option maxRecDepth 20000 in
theorem ggX1_close_X0_settle : GoodIn wsX1_close wsX0_settle := goodIn_r _ [8, 9, 10, 11, 12, 13, 14, 15, 6, 16, 17, 18, 19, 20, 21, 22, 23, 24, 25, 26, 27, 28, 29, 30, 31, 32, 33, 34, 35, 36, 37, 38, 39, 40, 41, 42, 43, 44, 45, 46, 47, 48, 49, 50, 51, 52, 53, 54, 55, 56, 57, 58, 59, 60, 61, 62, 63, 64, 65, 69, 70, 71, 72, 73, 74, 75, 76, 77] (by decide +kernel) (by decide +kernel)
set_option maxRecDepth 20000 in
theorem gX1_close_X0_settle_n83 : GoodIn wsX1_close (wsX0_settle) := ggX1_close_X0_settle
theorem dX1_close_0 : decode cX1_close 0 = .ok (.aload_n 0, 1) := by decide +kernel
theorem dX1_close_1 : decode cX1_close 1 = .ok (.getfield 19, 3) := by decide +kernel
theorem dX1_close_4 : decode cX1_close 4 = .ok (.bipush 48, 2) := by decide +kernel
theorem dX1_close_6 : decode cX1_close 6 = .ok (.if_icmp .lt 13, 3) := by decide +kernel
theorem dX1_close_9 : decode cX1_close 9 = .ok (.new 22, 3) := by decide +kernel
theorem dX1_close_12 : decode cX1_close 12 = .ok (.dup, 1) := by decide +kernel
theorem dX1_close_13 : decode cX1_close 13 = .ok (.ldc 29, 2) := by decide +kernel
theorem dX1_close_15 : decode cX1_close 15 = .ok (.invokespecial 26, 3) := by decide +kernel
theorem dX1_close_18 : decode cX1_close 18 = .ok (.athrow, 1) := by decide +kernel
theorem dX1_close_19 : decode cX1_close 19 = .ok (.iconst 0, 1) := by decide +kernel
theorem dX1_close_20 : decode cX1_close 20 = .ok (.istore_n 1, 1) := by decide +kernel
theorem dX1_close_21 : decode cX1_close 21 = .ok (.aload_n 0, 1) := by decide +kernel
theorem dX1_close_22 : decode cX1_close 22 = .ok (.getfield 11, 3) := by decide +kernel
theorem dX1_close_25 : decode cX1_close 25 = .ok (.astore_n 2, 1) := by decide +kernel
theorem dX1_close_26 : decode cX1_close 26 = .ok (.aload_n 2, 1) := by decide +kernel
theorem dX1_close_27 : decode cX1_close 27 = .ok (.arraylength, 1) := by decide +kernel
theorem dX1_close_28 : decode cX1_close 28 = .ok (.istore_n 3, 1) := by decide +kernel
theorem dX1_close_29 : decode cX1_close 29 = .ok (.iconst 0, 1) := by decide +kernel
theorem dX1_close_30 : decode cX1_close 30 = .ok (.istore 4, 2) := by decide +kernel
theorem dX1_close_32 : decode cX1_close 32 = .ok (.iload 4, 2) := by decide +kernel
theorem dX1_close_34 : decode cX1_close 34 = .ok (.iload_n 3, 1) := by decide +kernel
theorem dX1_close_35 : decode cX1_close 35 = .ok (.if_icmp .ge 32, 3) := by decide +kernel
theorem dX1_close_38 : decode cX1_close 38 = .ok (.aload_n 2, 1) := by decide +kernel
theorem dX1_close_39 : decode cX1_close 39 = .ok (.iload 4, 2) := by decide +kernel
theorem dX1_close_41 : decode cX1_close 41 = .ok (.aaload, 1) := by decide +kernel
theorem dX1_close_42 : decode cX1_close 42 = .ok (.astore 5, 2) := by decide +kernel
theorem dX1_close_44 : decode cX1_close 44 = .ok (.aload 5, 2) := by decide +kernel
theorem dX1_close_46 : decode cX1_close 46 = .ok (.ifnull 15, 3) := by decide +kernel
theorem dX1_close_49 : decode cX1_close 49 = .ok (.iload_n 1, 1) := by decide +kernel
theorem dX1_close_50 : decode cX1_close 50 = .ok (.aload 5, 2) := by decide +kernel
theorem dX1_close_52 : decode cX1_close 52 = .ok (.aload_n 0, 1) := by decide +kernel
theorem dX1_close_53 : decode cX1_close 53 = .ok (.getfield 19, 3) := by decide +kernel
theorem dX1_close_56 : decode cX1_close 56 = .ok (.invokevirtual 83, 3) := by decide +kernel
theorem dX1_close_59 : decode cX1_close 59 = .ok (.iadd, 1) := by decide +kernel
theorem dX1_close_60 : decode cX1_close 60 = .ok (.istore_n 1, 1) := by decide +kernel
theorem dX1_close_61 : decode cX1_close 61 = .ok (.iinc 4 1, 3) := by decide +kernel
theorem dX1_close_64 : decode cX1_close 64 = .ok (.goto (-32), 3) := by decide +kernel
theorem dX1_close_67 : decode cX1_close 67 = .ok (.aload_n 0, 1) := by decide +kernel
theorem dX1_close_68 : decode cX1_close 68 = .ok (.dup, 1) := by decide +kernel
theorem dX1_close_69 : decode cX1_close 69 = .ok (.getfield 19, 3) := by decide +kernel
theorem dX1_close_72 : decode cX1_close 72 = .ok (.iconst 1, 1) := by decide +kernel
theorem dX1_close_73 : decode cX1_close 73 = .ok (.iadd, 1) := by decide +kernel
theorem dX1_close_74 : decode cX1_close 74 = .ok (.putfield 19, 3) := by decide +kernel
theorem dX1_close_77 : decode cX1_close 77 = .ok (.iload_n 1, 1) := by decide +kernel
theorem dX1_close_78 : decode cX1_close 78 = .ok (.ireturn, 1) := by decide +kernel
theorem dX1_month_0 : decode cX1_month 0 = .ok (.aload_n 0, 1) := by decide +kernel
theorem dX1_month_1 : decode cX1_month 1 = .ok (.getfield 19, 3) := by decide +kernel
theorem dX1_month_4 : decode cX1_month 4 = .ok (.bipush 48, 2) := by decide +kernel
theorem dX1_month_6 : decode cX1_month 6 = .ok (.if_icmp .ge 10, 3) := by decide +kernel
theorem dX1_month_9 : decode cX1_month 9 = .ok (.aload_n 0, 1) := by decide +kernel
theorem dX1_month_10 : decode cX1_month 10 = .ok (.getfield 19, 3) := by decide +kernel
theorem dX1_month_13 : decode cX1_month 13 = .ok (.goto 4, 3) := by decide +kernel
theorem dX1_month_16 : decode cX1_month 16 = .ok (.iconst (-1), 1) := by decide +kernel
theorem dX1_month_17 : decode cX1_month 17 = .ok (.ireturn, 1) := by decide +kernel
set_option maxRecDepth 20000 in
theorem ggX1_fact_X1_existing : GoodIn wsX1_fact wsX1_existing := goodIn_ca (goodIn_r _ [5, 6, 7, 8, 26, 27, 28] (by decide +kernel) (by decide +kernel)) (goodIn_sub (fun _ h => List.mem_cons_of_mem _ (List.mem_append_left _ (List.mem_append_right _ h))) (by decide +kernel))
set_option maxRecDepth 20000 in
theorem gX1_fact_X1_existing : GoodIn wsX1_fact (wsV RX1 34 RX1 yX1_existing wsX1_existing) := goodIn_app (goodIn_of _ (by decide +kernel)) ggX1_fact_X1_existing
set_option maxRecDepth 20000 in
theorem ggX1_fact_X1_checkMonth : GoodIn wsX1_fact wsX1_checkMonth := goodIn_ca (goodIn_r _ [11, 6, 7] (by decide +kernel) (by decide +kernel)) (goodIn_sub (fun _ h => List.mem_cons_of_mem _ (List.mem_append_left _ (List.mem_append_right _ h))) (by decide +kernel))
set_option maxRecDepth 20000 in
theorem gX1_fact_X1_checkMonth : GoodIn wsX1_fact (va_wsS RX1 86 yX1_checkMonth wsX1_checkMonth) := goodIn_app (goodIn_of _ (by decide +kernel)) ggX1_fact_X1_checkMonth
set_option maxRecDepth 20000 in
theorem ggX1_fact_X1_checkFact : GoodIn wsX1_fact wsX1_checkFact := goodIn_ca (goodIn_r _ [14, 15, 16] (by decide +kernel) (by decide +kernel)) (goodIn_sub (fun _ h => List.mem_cons_of_mem _ (List.mem_append_right _ h)) (by decide +kernel))
set_option maxRecDepth 20000 in
theorem gX1_fact_X1_checkFact : GoodIn wsX1_fact (va_wsS RX1 38 yX1_checkFact wsX1_checkFact) := goodIn_app (goodIn_of _ (by decide +kernel)) ggX1_fact_X1_checkFact
theorem dX1_fact_0 : decode cX1_fact 0 = .ok (.aload_n 0, 1) := by decide +kernel
theorem dX1_fact_1 : decode cX1_fact 1 = .ok (.iload_n 1, 1) := by decide +kernel
theorem dX1_fact_2 : decode cX1_fact 2 = .ok (.invokevirtual 34, 3) := by decide +kernel
theorem dX1_fact_5 : decode cX1_fact 5 = .ok (.astore 4, 2) := by decide +kernel
theorem dX1_fact_7 : decode cX1_fact 7 = .ok (.iload_n 3, 1) := by decide +kernel
theorem dX1_fact_8 : decode cX1_fact 8 = .ok (.invokestatic 86, 3) := by decide +kernel
theorem dX1_fact_11 : decode cX1_fact 11 = .ok (.iload_n 2, 1) := by decide +kernel
theorem dX1_fact_12 : decode cX1_fact 12 = .ok (.invokestatic 38, 3) := by decide +kernel
theorem dX1_fact_15 : decode cX1_fact 15 = .ok (.aload 4, 2) := by decide +kernel
theorem dX1_fact_17 : decode cX1_fact 17 = .ok (.getfield 89, 3) := by decide +kernel
theorem dX1_fact_20 : decode cX1_fact 20 = .ok (.iload_n 2, 1) := by decide +kernel
theorem dX1_fact_21 : decode cX1_fact 21 = .ok (.aaload, 1) := by decide +kernel
theorem dX1_fact_22 : decode cX1_fact 22 = .ok (.iload_n 3, 1) := by decide +kernel
theorem dX1_fact_23 : decode cX1_fact 23 = .ok (.iaload, 1) := by decide +kernel
theorem dX1_fact_24 : decode cX1_fact 24 = .ok (.ireturn, 1) := by decide +kernel
set_option maxRecDepth 20000 in
theorem ggX1_need_X1_existing : GoodIn wsX1_need wsX1_existing := goodIn_ca (goodIn_r _ [5, 6, 7, 8, 22, 23, 24] (by decide +kernel) (by decide +kernel)) (goodIn_sub (fun _ h => List.mem_cons_of_mem _ (List.mem_append_right _ h)) (by decide +kernel))
set_option maxRecDepth 20000 in
theorem gX1_need_X1_existing : GoodIn wsX1_need (wsV RX1 34 RX1 yX1_existing wsX1_existing) := goodIn_app (goodIn_of _ (by decide +kernel)) ggX1_need_X1_existing
set_option maxRecDepth 20000 in
theorem ggX1_need_X1_checkMonth : GoodIn wsX1_need wsX1_checkMonth := goodIn_ca (goodIn_r _ [11, 6, 7] (by decide +kernel) (by decide +kernel)) (goodIn_sub (fun _ h => List.mem_cons_of_mem _ (List.mem_append_right _ h)) (by decide +kernel))
set_option maxRecDepth 20000 in
theorem gX1_need_X1_checkMonth : GoodIn wsX1_need (va_wsS RX1 86 yX1_checkMonth wsX1_checkMonth) := goodIn_app (goodIn_of _ (by decide +kernel)) ggX1_need_X1_checkMonth
set_option maxRecDepth 20000 in
theorem ggX1_need_X0_needIn : GoodIn wsX1_need wsX0_needIn := goodIn_r _ [15, 16, 17, 18, 19, 20, 21, 25, 26, 27, 28, 29, 30, 31, 32, 33] (by decide +kernel) (by decide +kernel)
set_option maxRecDepth 20000 in
theorem gX1_need_X0_needIn_n93 : GoodIn wsX1_need (wsX0_needIn) := ggX1_need_X0_needIn
theorem dX1_need_0 : decode cX1_need 0 = .ok (.aload_n 0, 1) := by decide +kernel
theorem dX1_need_1 : decode cX1_need 1 = .ok (.iload_n 1, 1) := by decide +kernel
theorem dX1_need_2 : decode cX1_need 2 = .ok (.invokevirtual 34, 3) := by decide +kernel
theorem dX1_need_5 : decode cX1_need 5 = .ok (.astore_n 3, 1) := by decide +kernel
theorem dX1_need_6 : decode cX1_need 6 = .ok (.iload_n 2, 1) := by decide +kernel
theorem dX1_need_7 : decode cX1_need 7 = .ok (.invokestatic 86, 3) := by decide +kernel
theorem dX1_need_10 : decode cX1_need 10 = .ok (.aload_n 3, 1) := by decide +kernel
theorem dX1_need_11 : decode cX1_need 11 = .ok (.iload_n 2, 1) := by decide +kernel
theorem dX1_need_12 : decode cX1_need 12 = .ok (.invokevirtual 93, 3) := by decide +kernel
theorem dX1_need_15 : decode cX1_need 15 = .ok (.ireturn, 1) := by decide +kernel
set_option maxRecDepth 20000 in
theorem ggX1_taper_X1_existing : GoodIn wsX1_taper wsX1_existing := goodIn_ca (goodIn_r _ [5, 6, 7, 8, 21, 22, 23] (by decide +kernel) (by decide +kernel)) (goodIn_sub (fun _ h => List.mem_cons_of_mem _ (List.mem_append_right _ h)) (by decide +kernel))
set_option maxRecDepth 20000 in
theorem gX1_taper_X1_existing : GoodIn wsX1_taper (wsV RX1 34 RX1 yX1_existing wsX1_existing) := goodIn_app (goodIn_of _ (by decide +kernel)) ggX1_taper_X1_existing
set_option maxRecDepth 20000 in
theorem ggX1_taper_X1_checkMonth : GoodIn wsX1_taper wsX1_checkMonth := goodIn_ca (goodIn_r _ [11, 6, 7] (by decide +kernel) (by decide +kernel)) (goodIn_sub (fun _ h => List.mem_cons_of_mem _ (List.mem_append_right _ h)) (by decide +kernel))
set_option maxRecDepth 20000 in
theorem gX1_taper_X1_checkMonth : GoodIn wsX1_taper (va_wsS RX1 86 yX1_checkMonth wsX1_checkMonth) := goodIn_app (goodIn_of _ (by decide +kernel)) ggX1_taper_X1_checkMonth
set_option maxRecDepth 20000 in
theorem ggX1_taper_X0_taperIn : GoodIn wsX1_taper wsX0_taperIn := goodIn_r _ [15, 16, 17, 18, 19, 20, 24, 25, 26, 27, 28, 29, 30, 31, 32] (by decide +kernel) (by decide +kernel)
set_option maxRecDepth 20000 in
theorem gX1_taper_X0_taperIn_n96 : GoodIn wsX1_taper (wsX0_taperIn) := ggX1_taper_X0_taperIn
theorem dX1_taper_0 : decode cX1_taper 0 = .ok (.aload_n 0, 1) := by decide +kernel
theorem dX1_taper_1 : decode cX1_taper 1 = .ok (.iload_n 1, 1) := by decide +kernel
theorem dX1_taper_2 : decode cX1_taper 2 = .ok (.invokevirtual 34, 3) := by decide +kernel
theorem dX1_taper_5 : decode cX1_taper 5 = .ok (.astore_n 3, 1) := by decide +kernel
theorem dX1_taper_6 : decode cX1_taper 6 = .ok (.iload_n 2, 1) := by decide +kernel
theorem dX1_taper_7 : decode cX1_taper 7 = .ok (.invokestatic 86, 3) := by decide +kernel
theorem dX1_taper_10 : decode cX1_taper 10 = .ok (.aload_n 3, 1) := by decide +kernel
theorem dX1_taper_11 : decode cX1_taper 11 = .ok (.iload_n 2, 1) := by decide +kernel
theorem dX1_taper_12 : decode cX1_taper 12 = .ok (.invokevirtual 96, 3) := by decide +kernel
theorem dX1_taper_15 : decode cX1_taper 15 = .ok (.ireturn, 1) := by decide +kernel
set_option maxRecDepth 20000 in
theorem ggX1_tariff_X1_existing : GoodIn wsX1_tariff wsX1_existing := goodIn_ca (goodIn_r _ [5, 6, 7, 8, 22, 23, 24] (by decide +kernel) (by decide +kernel)) (goodIn_sub (fun _ h => List.mem_cons_of_mem _ (List.mem_append_right _ h)) (by decide +kernel))
set_option maxRecDepth 20000 in
theorem gX1_tariff_X1_existing : GoodIn wsX1_tariff (wsV RX1 34 RX1 yX1_existing wsX1_existing) := goodIn_app (goodIn_of _ (by decide +kernel)) ggX1_tariff_X1_existing
set_option maxRecDepth 20000 in
theorem ggX1_tariff_X1_checkMonth : GoodIn wsX1_tariff wsX1_checkMonth := goodIn_ca (goodIn_r _ [11, 6, 7] (by decide +kernel) (by decide +kernel)) (goodIn_sub (fun _ h => List.mem_cons_of_mem _ (List.mem_append_right _ h)) (by decide +kernel))
set_option maxRecDepth 20000 in
theorem gX1_tariff_X1_checkMonth : GoodIn wsX1_tariff (va_wsS RX1 86 yX1_checkMonth wsX1_checkMonth) := goodIn_app (goodIn_of _ (by decide +kernel)) ggX1_tariff_X1_checkMonth
set_option maxRecDepth 20000 in
theorem ggX1_tariff_X0_tariffIn : GoodIn wsX1_tariff wsX0_tariffIn := goodIn_r _ [15, 16, 17, 18, 19, 20, 21, 25, 26, 27, 28, 29, 30, 31, 32, 33] (by decide +kernel) (by decide +kernel)
set_option maxRecDepth 20000 in
theorem gX1_tariff_X0_tariffIn_n99 : GoodIn wsX1_tariff (wsX0_tariffIn) := ggX1_tariff_X0_tariffIn
theorem dX1_tariff_0 : decode cX1_tariff 0 = .ok (.aload_n 0, 1) := by decide +kernel
theorem dX1_tariff_1 : decode cX1_tariff 1 = .ok (.iload_n 1, 1) := by decide +kernel
theorem dX1_tariff_2 : decode cX1_tariff 2 = .ok (.invokevirtual 34, 3) := by decide +kernel
theorem dX1_tariff_5 : decode cX1_tariff 5 = .ok (.astore_n 3, 1) := by decide +kernel
theorem dX1_tariff_6 : decode cX1_tariff 6 = .ok (.iload_n 2, 1) := by decide +kernel
theorem dX1_tariff_7 : decode cX1_tariff 7 = .ok (.invokestatic 86, 3) := by decide +kernel
theorem dX1_tariff_10 : decode cX1_tariff 10 = .ok (.aload_n 3, 1) := by decide +kernel
theorem dX1_tariff_11 : decode cX1_tariff 11 = .ok (.iload_n 2, 1) := by decide +kernel
theorem dX1_tariff_12 : decode cX1_tariff 12 = .ok (.invokevirtual 99, 3) := by decide +kernel
theorem dX1_tariff_15 : decode cX1_tariff 15 = .ok (.ireturn, 1) := by decide +kernel
set_option maxRecDepth 20000 in
theorem ggX1_due_X1_existing : GoodIn wsX1_due wsX1_existing := goodIn_ca (goodIn_r _ [5, 6, 7, 8, 39, 40, 41] (by decide +kernel) (by decide +kernel)) (goodIn_sub (fun _ h => List.mem_cons_of_mem _ (List.mem_append_right _ h)) (by decide +kernel))
set_option maxRecDepth 20000 in
theorem gX1_due_X1_existing : GoodIn wsX1_due (wsV RX1 34 RX1 yX1_existing wsX1_existing) := goodIn_app (goodIn_of _ (by decide +kernel)) ggX1_due_X1_existing
set_option maxRecDepth 20000 in
theorem ggX1_due_X1_checkMonth : GoodIn wsX1_due wsX1_checkMonth := goodIn_ca (goodIn_r _ [11, 6, 7] (by decide +kernel) (by decide +kernel)) (goodIn_sub (fun _ h => List.mem_cons_of_mem _ (List.mem_append_right _ h)) (by decide +kernel))
set_option maxRecDepth 20000 in
theorem gX1_due_X1_checkMonth : GoodIn wsX1_due (va_wsS RX1 86 yX1_checkMonth wsX1_checkMonth) := goodIn_app (goodIn_of _ (by decide +kernel)) ggX1_due_X1_checkMonth
set_option maxRecDepth 20000 in
theorem ggX1_due_X0_dueIn : GoodIn wsX1_due wsX0_dueIn := goodIn_r _ [15, 16, 17, 18, 19, 20, 13, 21, 22, 23, 24, 25, 26, 27, 28, 29, 30, 31, 32, 33, 34, 35, 36, 37, 38, 42, 43, 44, 45, 46, 47, 48, 49, 50] (by decide +kernel) (by decide +kernel)
set_option maxRecDepth 20000 in
theorem gX1_due_X0_dueIn_n102 : GoodIn wsX1_due (wsX0_dueIn) := ggX1_due_X0_dueIn
theorem dX1_due_0 : decode cX1_due 0 = .ok (.aload_n 0, 1) := by decide +kernel
theorem dX1_due_1 : decode cX1_due 1 = .ok (.iload_n 1, 1) := by decide +kernel
theorem dX1_due_2 : decode cX1_due 2 = .ok (.invokevirtual 34, 3) := by decide +kernel
theorem dX1_due_5 : decode cX1_due 5 = .ok (.astore_n 3, 1) := by decide +kernel
theorem dX1_due_6 : decode cX1_due 6 = .ok (.iload_n 2, 1) := by decide +kernel
theorem dX1_due_7 : decode cX1_due 7 = .ok (.invokestatic 86, 3) := by decide +kernel
theorem dX1_due_10 : decode cX1_due 10 = .ok (.aload_n 3, 1) := by decide +kernel
theorem dX1_due_11 : decode cX1_due 11 = .ok (.iload_n 2, 1) := by decide +kernel
theorem dX1_due_12 : decode cX1_due 12 = .ok (.invokevirtual 102, 3) := by decide +kernel
theorem dX1_due_15 : decode cX1_due 15 = .ok (.ireturn, 1) := by decide +kernel
set_option maxRecDepth 20000 in
theorem ggX1_unassessed_X1_existing : GoodIn wsX1_unassessed wsX1_existing := goodIn_ca (goodIn_r _ [6, 7, 8, 9, 43, 44, 45] (by decide +kernel) (by decide +kernel)) (goodIn_sub (fun _ h => List.mem_cons_of_mem _ (List.mem_append_right _ h)) (by decide +kernel))
set_option maxRecDepth 20000 in
theorem gX1_unassessed_X1_existing : GoodIn wsX1_unassessed (wsV RX1 34 RX1 yX1_existing wsX1_existing) := goodIn_app (goodIn_of _ (by decide +kernel)) ggX1_unassessed_X1_existing
set_option maxRecDepth 20000 in
theorem ggX1_unassessed_X0_unassessedBefore : GoodIn wsX1_unassessed wsX0_unassessedBefore := goodIn_r _ [13, 14, 15, 16, 17, 18, 11, 19, 20, 21, 22, 23, 24, 25, 26, 27, 28, 29, 30, 31, 32, 33, 34, 35, 36, 37, 38, 39, 40, 41, 42, 46, 47, 48, 49, 50, 51, 52, 53, 54] (by decide +kernel) (by decide +kernel)
set_option maxRecDepth 20000 in
theorem gX1_unassessed_X0_unassessedBefore_n105 : GoodIn wsX1_unassessed (wsX0_unassessedBefore) := ggX1_unassessed_X0_unassessedBefore
theorem dX1_unassessed_0 : decode cX1_unassessed 0 = .ok (.aload_n 0, 1) := by decide +kernel
theorem dX1_unassessed_1 : decode cX1_unassessed 1 = .ok (.iload_n 1, 1) := by decide +kernel
theorem dX1_unassessed_2 : decode cX1_unassessed 2 = .ok (.invokevirtual 34, 3) := by decide +kernel
theorem dX1_unassessed_5 : decode cX1_unassessed 5 = .ok (.aload_n 0, 1) := by decide +kernel
theorem dX1_unassessed_6 : decode cX1_unassessed 6 = .ok (.getfield 19, 3) := by decide +kernel
theorem dX1_unassessed_9 : decode cX1_unassessed 9 = .ok (.invokevirtual 105, 3) := by decide +kernel
theorem dX1_unassessed_12 : decode cX1_unassessed 12 = .ok (.ireturn, 1) := by decide +kernel
set_option maxRecDepth 20000 in
theorem ggX1_wouldPay_X1_existing : GoodIn wsX1_wouldPay wsX1_existing := goodIn_ca (goodIn_r _ [6, 7, 8, 9, 61, 62, 63] (by decide +kernel) (by decide +kernel)) (goodIn_sub (fun _ h => List.mem_cons_of_mem _ (List.mem_append_right _ h)) (by decide +kernel))
set_option maxRecDepth 20000 in
theorem gX1_wouldPay_X1_existing : GoodIn wsX1_wouldPay (wsV RX1 34 RX1 yX1_existing wsX1_existing) := goodIn_app (goodIn_of _ (by decide +kernel)) ggX1_wouldPay_X1_existing
set_option maxRecDepth 20000 in
theorem ggX1_wouldPay_X0_paymentIn : GoodIn wsX1_wouldPay wsX0_paymentIn := goodIn_r _ [13, 14, 15, 16, 11, 17, 18, 19, 20, 21, 22, 23, 24, 25, 26, 27, 28, 29, 30, 31, 32, 33, 34, 35, 36, 37, 38, 39, 40, 41, 42, 43, 44, 45, 46, 47, 48, 49, 50, 51, 52, 53, 54, 55, 56, 57, 58, 59, 60, 64, 65, 66, 67, 68, 69, 70, 71, 72] (by decide +kernel) (by decide +kernel)
set_option maxRecDepth 20000 in
theorem gX1_wouldPay_X0_paymentIn_n108 : GoodIn wsX1_wouldPay (wsX0_paymentIn) := ggX1_wouldPay_X0_paymentIn
theorem dX1_wouldPay_0 : decode cX1_wouldPay 0 = .ok (.aload_n 0, 1) := by decide +kernel
theorem dX1_wouldPay_1 : decode cX1_wouldPay 1 = .ok (.iload_n 1, 1) := by decide +kernel
theorem dX1_wouldPay_2 : decode cX1_wouldPay 2 = .ok (.invokevirtual 34, 3) := by decide +kernel
theorem dX1_wouldPay_5 : decode cX1_wouldPay 5 = .ok (.astore_n 2, 1) := by decide +kernel
theorem dX1_wouldPay_6 : decode cX1_wouldPay 6 = .ok (.aload_n 0, 1) := by decide +kernel
theorem dX1_wouldPay_7 : decode cX1_wouldPay 7 = .ok (.getfield 19, 3) := by decide +kernel
theorem dX1_wouldPay_10 : decode cX1_wouldPay 10 = .ok (.bipush 48, 2) := by decide +kernel
theorem dX1_wouldPay_12 : decode cX1_wouldPay 12 = .ok (.if_icmp .ge 14, 3) := by decide +kernel
theorem dX1_wouldPay_15 : decode cX1_wouldPay 15 = .ok (.aload_n 2, 1) := by decide +kernel
theorem dX1_wouldPay_16 : decode cX1_wouldPay 16 = .ok (.aload_n 0, 1) := by decide +kernel
theorem dX1_wouldPay_17 : decode cX1_wouldPay 17 = .ok (.getfield 19, 3) := by decide +kernel
theorem dX1_wouldPay_20 : decode cX1_wouldPay 20 = .ok (.invokevirtual 108, 3) := by decide +kernel
theorem dX1_wouldPay_23 : decode cX1_wouldPay 23 = .ok (.goto 4, 3) := by decide +kernel
theorem dX1_wouldPay_26 : decode cX1_wouldPay 26 = .ok (.iconst 0, 1) := by decide +kernel
theorem dX1_wouldPay_27 : decode cX1_wouldPay 27 = .ok (.ireturn, 1) := by decide +kernel
set_option maxRecDepth 20000 in
theorem ggX1_assessed_X1_existing : GoodIn wsX1_assessed wsX1_existing := goodIn_ca (goodIn_r _ [5, 6, 7, 8, 21, 22, 23] (by decide +kernel) (by decide +kernel)) (goodIn_sub (fun _ h => List.mem_cons_of_mem _ (List.mem_append_right _ h)) (by decide +kernel))
set_option maxRecDepth 20000 in
theorem gX1_assessed_X1_existing : GoodIn wsX1_assessed (wsV RX1 34 RX1 yX1_existing wsX1_existing) := goodIn_app (goodIn_of _ (by decide +kernel)) ggX1_assessed_X1_existing
set_option maxRecDepth 20000 in
theorem ggX1_assessed_X1_checkMonth : GoodIn wsX1_assessed wsX1_checkMonth := goodIn_ca (goodIn_r _ [11, 6, 7] (by decide +kernel) (by decide +kernel)) (goodIn_sub (fun _ h => List.mem_cons_of_mem _ (List.mem_append_right _ h)) (by decide +kernel))
set_option maxRecDepth 20000 in
theorem gX1_assessed_X1_checkMonth : GoodIn wsX1_assessed (va_wsS RX1 86 yX1_checkMonth wsX1_checkMonth) := goodIn_app (goodIn_of _ (by decide +kernel)) ggX1_assessed_X1_checkMonth
theorem dX1_assessed_0 : decode cX1_assessed 0 = .ok (.aload_n 0, 1) := by decide +kernel
theorem dX1_assessed_1 : decode cX1_assessed 1 = .ok (.iload_n 1, 1) := by decide +kernel
theorem dX1_assessed_2 : decode cX1_assessed 2 = .ok (.invokevirtual 34, 3) := by decide +kernel
theorem dX1_assessed_5 : decode cX1_assessed 5 = .ok (.astore_n 3, 1) := by decide +kernel
theorem dX1_assessed_6 : decode cX1_assessed 6 = .ok (.iload_n 2, 1) := by decide +kernel
theorem dX1_assessed_7 : decode cX1_assessed 7 = .ok (.invokestatic 86, 3) := by decide +kernel
theorem dX1_assessed_10 : decode cX1_assessed 10 = .ok (.aload_n 3, 1) := by decide +kernel
theorem dX1_assessed_11 : decode cX1_assessed 11 = .ok (.getfield 111, 3) := by decide +kernel
