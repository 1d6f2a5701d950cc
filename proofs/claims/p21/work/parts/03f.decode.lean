theorem dL_due_36 : decode cL_due 36 = .ok (.aload 4, 2) := by decide +kernel
theorem dL_due_38 : decode cL_due 38 = .ok (.invokestatic 29, 3) := by decide +kernel
theorem dL_due_41 : decode cL_due 41 = .ok (.ldc 53, 2) := by decide +kernel
theorem dL_due_43 : decode cL_due 43 = .ok (.if_icmp .gt 11, 3) := by decide +kernel
theorem dL_due_46 : decode cL_due 46 = .ok (.iload 5, 2) := by decide +kernel
theorem dL_due_48 : decode cL_due 48 = .ok (.sipush 500, 3) := by decide +kernel
theorem dL_due_51 : decode cL_due 51 = .ok (.if_icmp .ge 7, 3) := by decide +kernel
theorem dL_due_54 : decode cL_due 54 = .ok (.iconst 0, 1) := by decide +kernel
theorem dL_due_55 : decode cL_due 55 = .ok (.goto 5, 3) := by decide +kernel
theorem dL_due_58 : decode cL_due 58 = .ok (.iload 5, 2) := by decide +kernel
theorem dL_due_60 : decode cL_due 60 = .ok (.ireturn, 1) := by decide +kernel
set_option maxRecDepth 20000 in
theorem ggL_open_L_due : GoodIn wsL_open wsL_due := goodIn_r _ [4, 5, 6, 7, 3, 8, 9, 10, 11, 12, 13, 14, 15, 16, 17, 18, 19, 20, 21, 22] (by decide +kernel) (by decide +kernel)
set_option maxRecDepth 20000 in
theorem gL_open_L_due : GoodIn wsL_open (va_wsS RL 54 yL_due wsL_due) := goodIn_app (goodIn_of _ (by decide +kernel)) ggL_open_L_due
theorem dL_open_0 : decode cL_open 0 = .ok (.iconst 0, 1) := by decide +kernel
theorem dL_open_1 : decode cL_open 1 = .ok (.istore 5, 2) := by decide +kernel
theorem dL_open_3 : decode cL_open 3 = .ok (.aload 4, 2) := by decide +kernel
theorem dL_open_5 : decode cL_open 5 = .ok (.iconst 4, 1) := by decide +kernel
theorem dL_open_6 : decode cL_open 6 = .ok (.iload_n 0, 1) := by decide +kernel
theorem dL_open_7 : decode cL_open 7 = .ok (.iadd, 1) := by decide +kernel
theorem dL_open_8 : decode cL_open 8 = .ok (.iaload, 1) := by decide +kernel
theorem dL_open_9 : decode cL_open 9 = .ok (.istore 6, 2) := by decide +kernel
theorem dL_open_11 : decode cL_open 11 = .ok (.iload 6, 2) := by decide +kernel
theorem dL_open_13 : decode cL_open 13 = .ok (.aload 4, 2) := by decide +kernel
theorem dL_open_15 : decode cL_open 15 = .ok (.iconst 0, 1) := by decide +kernel
theorem dL_open_16 : decode cL_open 16 = .ok (.iaload, 1) := by decide +kernel
theorem dL_open_17 : decode cL_open 17 = .ok (.if_icmp .ge 29, 3) := by decide +kernel
theorem dL_open_20 : decode cL_open 20 = .ok (.iload 5, 2) := by decide +kernel
theorem dL_open_22 : decode cL_open 22 = .ok (.iload_n 0, 1) := by decide +kernel
theorem dL_open_23 : decode cL_open 23 = .ok (.iload 6, 2) := by decide +kernel
theorem dL_open_25 : decode cL_open 25 = .ok (.aload_n 1, 1) := by decide +kernel
theorem dL_open_26 : decode cL_open 26 = .ok (.aload_n 2, 1) := by decide +kernel
theorem dL_open_27 : decode cL_open 27 = .ok (.aload 4, 2) := by decide +kernel
theorem dL_open_29 : decode cL_open 29 = .ok (.invokestatic 54, 3) := by decide +kernel
theorem dL_open_32 : decode cL_open 32 = .ok (.aload_n 3, 1) := by decide +kernel
theorem dL_open_33 : decode cL_open 33 = .ok (.iload 6, 2) := by decide +kernel
theorem dL_open_35 : decode cL_open 35 = .ok (.iaload, 1) := by decide +kernel
theorem dL_open_36 : decode cL_open 36 = .ok (.isub, 1) := by decide +kernel
theorem dL_open_37 : decode cL_open 37 = .ok (.iadd, 1) := by decide +kernel
theorem dL_open_38 : decode cL_open 38 = .ok (.istore 5, 2) := by decide +kernel
theorem dL_open_40 : decode cL_open 40 = .ok (.iinc 6 1, 3) := by decide +kernel
theorem dL_open_43 : decode cL_open 43 = .ok (.goto (-32), 3) := by decide +kernel
theorem dL_open_46 : decode cL_open 46 = .ok (.iload 5, 2) := by decide +kernel
theorem dL_open_48 : decode cL_open 48 = .ok (.ireturn, 1) := by decide +kernel
set_option maxRecDepth 20000 in
theorem ggL_recovers_L_fact : GoodIn wsL_recovers wsL_fact := goodIn_r _ [4] (by decide +kernel) (by decide +kernel)
set_option maxRecDepth 20000 in
theorem gL_recovers_L_fact : GoodIn wsL_recovers (va_wsS RL 29 yL_fact wsL_fact) := goodIn_app (goodIn_of _ (by decide +kernel)) ggL_recovers_L_fact
theorem dL_recovers_0 : decode cL_recovers 0 = .ok (.iload_n 2, 1) := by decide +kernel
theorem dL_recovers_1 : decode cL_recovers 1 = .ok (.iconst 3, 1) := by decide +kernel
theorem dL_recovers_2 : decode cL_recovers 2 = .ok (.imul, 1) := by decide +kernel
theorem dL_recovers_3 : decode cL_recovers 3 = .ok (.bipush 20, 2) := by decide +kernel
theorem dL_recovers_5 : decode cL_recovers 5 = .ok (.idiv, 1) := by decide +kernel
theorem dL_recovers_6 : decode cL_recovers 6 = .ok (.istore 6, 2) := by decide +kernel
theorem dL_recovers_8 : decode cL_recovers 8 = .ok (.iload_n 2, 1) := by decide +kernel
theorem dL_recovers_9 : decode cL_recovers 9 = .ok (.iload_n 0, 1) := by decide +kernel
theorem dL_recovers_10 : decode cL_recovers 10 = .ok (.iconst 3, 1) := by decide +kernel
theorem dL_recovers_11 : decode cL_recovers 11 = .ok (.aload 5, 2) := by decide +kernel
theorem dL_recovers_13 : decode cL_recovers 13 = .ok (.iconst 0, 1) := by decide +kernel
theorem dL_recovers_14 : decode cL_recovers 14 = .ok (.iaload, 1) := by decide +kernel
theorem dL_recovers_15 : decode cL_recovers 15 = .ok (.aload_n 3, 1) := by decide +kernel
theorem dL_recovers_16 : decode cL_recovers 16 = .ok (.aload 4, 2) := by decide +kernel
theorem dL_recovers_18 : decode cL_recovers 18 = .ok (.aload 5, 2) := by decide +kernel
theorem dL_recovers_20 : decode cL_recovers 20 = .ok (.invokestatic 29, 3) := by decide +kernel
theorem dL_recovers_23 : decode cL_recovers 23 = .ok (.iadd, 1) := by decide +kernel
theorem dL_recovers_24 : decode cL_recovers 24 = .ok (.sipush 25000, 3) := by decide +kernel
theorem dL_recovers_27 : decode cL_recovers 27 = .ok (.isub, 1) := by decide +kernel
theorem dL_recovers_28 : decode cL_recovers 28 = .ok (.istore 7, 2) := by decide +kernel
theorem dL_recovers_30 : decode cL_recovers 30 = .ok (.iload_n 1, 1) := by decide +kernel
theorem dL_recovers_31 : decode cL_recovers 31 = .ok (.iload 6, 2) := by decide +kernel
theorem dL_recovers_33 : decode cL_recovers 33 = .ok (.if_icmp .ge 7, 3) := by decide +kernel
theorem dL_recovers_36 : decode cL_recovers 36 = .ok (.iload_n 1, 1) := by decide +kernel
theorem dL_recovers_37 : decode cL_recovers 37 = .ok (.goto 5, 3) := by decide +kernel
theorem dL_recovers_40 : decode cL_recovers 40 = .ok (.iload 6, 2) := by decide +kernel
theorem dL_recovers_42 : decode cL_recovers 42 = .ok (.istore 8, 2) := by decide +kernel
theorem dL_recovers_44 : decode cL_recovers 44 = .ok (.iload 7, 2) := by decide +kernel
theorem dL_recovers_46 : decode cL_recovers 46 = .ok (.iload 8, 2) := by decide +kernel
theorem dL_recovers_48 : decode cL_recovers 48 = .ok (.if_icmp .ge 8, 3) := by decide +kernel
theorem dL_recovers_51 : decode cL_recovers 51 = .ok (.iload 7, 2) := by decide +kernel
theorem dL_recovers_53 : decode cL_recovers 53 = .ok (.goto 5, 3) := by decide +kernel
theorem dL_recovers_56 : decode cL_recovers 56 = .ok (.iload 8, 2) := by decide +kernel
theorem dL_recovers_58 : decode cL_recovers 58 = .ok (.istore 8, 2) := by decide +kernel
theorem dL_recovers_60 : decode cL_recovers 60 = .ok (.aload 5, 2) := by decide +kernel
theorem dL_recovers_62 : decode cL_recovers 62 = .ok (.bipush 10, 2) := by decide +kernel
theorem dL_recovers_64 : decode cL_recovers 64 = .ok (.iload_n 0, 1) := by decide +kernel
theorem dL_recovers_65 : decode cL_recovers 65 = .ok (.iadd, 1) := by decide +kernel
theorem dL_recovers_66 : decode cL_recovers 66 = .ok (.iaload, 1) := by decide +kernel
theorem dL_recovers_67 : decode cL_recovers 67 = .ok (.iconst 1, 1) := by decide +kernel
theorem dL_recovers_68 : decode cL_recovers 68 = .ok (.if_icmp .eq 8, 3) := by decide +kernel
theorem dL_recovers_71 : decode cL_recovers 71 = .ok (.iload 8, 2) := by decide +kernel
theorem dL_recovers_73 : decode cL_recovers 73 = .ok (.ifCond .ge 7, 3) := by decide +kernel
theorem dL_recovers_76 : decode cL_recovers 76 = .ok (.iconst 0, 1) := by decide +kernel
theorem dL_recovers_77 : decode cL_recovers 77 = .ok (.goto 5, 3) := by decide +kernel
theorem dL_recovers_80 : decode cL_recovers 80 = .ok (.iload 8, 2) := by decide +kernel
theorem dL_recovers_82 : decode cL_recovers 82 = .ok (.ireturn, 1) := by decide +kernel
theorem dL_debtThen_0 : decode cL_debtThen 0 = .ok (.aload_n 2, 1) := by decide +kernel
theorem dL_debtThen_1 : decode cL_debtThen 1 = .ok (.bipush 6, 2) := by decide +kernel
theorem dL_debtThen_3 : decode cL_debtThen 3 = .ok (.iload_n 0, 1) := by decide +kernel
theorem dL_debtThen_4 : decode cL_debtThen 4 = .ok (.iadd, 1) := by decide +kernel
theorem dL_debtThen_5 : decode cL_debtThen 5 = .ok (.iaload, 1) := by decide +kernel
theorem dL_debtThen_6 : decode cL_debtThen 6 = .ok (.iload_n 1, 1) := by decide +kernel
theorem dL_debtThen_7 : decode cL_debtThen 7 = .ok (.isub, 1) := by decide +kernel
theorem dL_debtThen_8 : decode cL_debtThen 8 = .ok (.istore_n 3, 1) := by decide +kernel
theorem dL_debtThen_9 : decode cL_debtThen 9 = .ok (.iload_n 1, 1) := by decide +kernel
theorem dL_debtThen_10 : decode cL_debtThen 10 = .ok (.ifCond .le 11, 3) := by decide +kernel
theorem dL_debtThen_13 : decode cL_debtThen 13 = .ok (.iload_n 3, 1) := by decide +kernel
theorem dL_debtThen_14 : decode cL_debtThen 14 = .ok (.ifCond .ge 7, 3) := by decide +kernel
theorem dL_debtThen_17 : decode cL_debtThen 17 = .ok (.iconst 0, 1) := by decide +kernel
theorem dL_debtThen_18 : decode cL_debtThen 18 = .ok (.goto 4, 3) := by decide +kernel
theorem dL_debtThen_21 : decode cL_debtThen 21 = .ok (.iload_n 3, 1) := by decide +kernel
theorem dL_debtThen_22 : decode cL_debtThen 22 = .ok (.ireturn, 1) := by decide +kernel
set_option maxRecDepth 20000 in
theorem ggL_pays_L_open : GoodIn wsL_pays wsL_open := goodIn_r _ [4, 5, 6, 3, 7, 8, 9, 10, 11, 12, 13, 14, 15, 16, 17, 18, 19, 20, 21, 22, 23, 24, 25] (by decide +kernel) (by decide +kernel)
set_option maxRecDepth 20000 in
theorem gL_pays_L_open : GoodIn wsL_pays (va_wsS RL 57 yL_open wsL_open) := goodIn_app (goodIn_of _ (by decide +kernel)) ggL_pays_L_open
set_option maxRecDepth 20000 in
theorem ggL_pays_L_debtThen : GoodIn wsL_pays wsL_debtThen := goodIn_r _ [28] (by decide +kernel) (by decide +kernel)
set_option maxRecDepth 20000 in
theorem gL_pays_L_debtThen : GoodIn wsL_pays (va_wsS RL 61 yL_debtThen wsL_debtThen) := goodIn_app (goodIn_of _ (by decide +kernel)) ggL_pays_L_debtThen
set_option maxRecDepth 20000 in
theorem ggL_pays_L_due : GoodIn wsL_pays wsL_due := goodIn_r _ [7, 8, 9, 10, 3, 11, 12, 13, 14, 15, 16, 17, 18, 19, 20, 21, 22, 23, 24, 25] (by decide +kernel) (by decide +kernel)
set_option maxRecDepth 20000 in
theorem gL_pays_L_due : GoodIn wsL_pays (va_wsS RL 54 yL_due wsL_due) := goodIn_app (goodIn_of _ (by decide +kernel)) ggL_pays_L_due
set_option maxRecDepth 20000 in
theorem ggL_pays_L_recovers : GoodIn wsL_pays wsL_recovers := goodIn_r _ [31, 13, 14, 3, 15] (by decide +kernel) (by decide +kernel)
set_option maxRecDepth 20000 in
theorem gL_pays_L_recovers : GoodIn wsL_pays (va_wsS RL 65 yL_recovers wsL_recovers) := goodIn_app (goodIn_of _ (by decide +kernel)) ggL_pays_L_recovers
theorem dL_pays_0 : decode cL_pays 0 = .ok (.iload_n 0, 1) := by decide +kernel
theorem dL_pays_1 : decode cL_pays 1 = .ok (.aload_n 1, 1) := by decide +kernel
theorem dL_pays_2 : decode cL_pays 2 = .ok (.aload_n 2, 1) := by decide +kernel
theorem dL_pays_3 : decode cL_pays 3 = .ok (.aload_n 3, 1) := by decide +kernel
theorem dL_pays_4 : decode cL_pays 4 = .ok (.aload 4, 2) := by decide +kernel
theorem dL_pays_6 : decode cL_pays 6 = .ok (.invokestatic 57, 3) := by decide +kernel
theorem dL_pays_9 : decode cL_pays 9 = .ok (.istore 5, 2) := by decide +kernel
theorem dL_pays_11 : decode cL_pays 11 = .ok (.iload_n 0, 1) := by decide +kernel
theorem dL_pays_12 : decode cL_pays 12 = .ok (.iload 5, 2) := by decide +kernel
theorem dL_pays_14 : decode cL_pays 14 = .ok (.aload 4, 2) := by decide +kernel
theorem dL_pays_16 : decode cL_pays 16 = .ok (.invokestatic 61, 3) := by decide +kernel
theorem dL_pays_19 : decode cL_pays 19 = .ok (.istore 6, 2) := by decide +kernel
theorem dL_pays_21 : decode cL_pays 21 = .ok (.iload_n 0, 1) := by decide +kernel
theorem dL_pays_22 : decode cL_pays 22 = .ok (.aload 4, 2) := by decide +kernel
theorem dL_pays_24 : decode cL_pays 24 = .ok (.iconst 0, 1) := by decide +kernel
theorem dL_pays_25 : decode cL_pays 25 = .ok (.iaload, 1) := by decide +kernel
theorem dL_pays_26 : decode cL_pays 26 = .ok (.aload_n 1, 1) := by decide +kernel
theorem dL_pays_27 : decode cL_pays 27 = .ok (.aload_n 2, 1) := by decide +kernel
theorem dL_pays_28 : decode cL_pays 28 = .ok (.aload 4, 2) := by decide +kernel
theorem dL_pays_30 : decode cL_pays 30 = .ok (.invokestatic 54, 3) := by decide +kernel
theorem dL_pays_33 : decode cL_pays 33 = .ok (.istore 7, 2) := by decide +kernel
theorem dL_pays_35 : decode cL_pays 35 = .ok (.iload 5, 2) := by decide +kernel
theorem dL_pays_37 : decode cL_pays 37 = .ok (.aload 4, 2) := by decide +kernel
theorem dL_pays_39 : decode cL_pays 39 = .ok (.bipush 6, 2) := by decide +kernel
theorem dL_pays_41 : decode cL_pays 41 = .ok (.iload_n 0, 1) := by decide +kernel
theorem dL_pays_42 : decode cL_pays 42 = .ok (.iadd, 1) := by decide +kernel
theorem dL_pays_43 : decode cL_pays 43 = .ok (.iaload, 1) := by decide +kernel
theorem dL_pays_44 : decode cL_pays 44 = .ok (.if_icmp .le 21, 3) := by decide +kernel
theorem dL_pays_47 : decode cL_pays 47 = .ok (.iload 5, 2) := by decide +kernel
theorem dL_pays_49 : decode cL_pays 49 = .ok (.ifCond .le 16, 3) := by decide +kernel
theorem dL_pays_52 : decode cL_pays 52 = .ok (.iload 5, 2) := by decide +kernel
theorem dL_pays_54 : decode cL_pays 54 = .ok (.aload 4, 2) := by decide +kernel
theorem dL_pays_56 : decode cL_pays 56 = .ok (.bipush 6, 2) := by decide +kernel
theorem dL_pays_58 : decode cL_pays 58 = .ok (.iload_n 0, 1) := by decide +kernel
theorem dL_pays_59 : decode cL_pays 59 = .ok (.iadd, 1) := by decide +kernel
theorem dL_pays_60 : decode cL_pays 60 = .ok (.iaload, 1) := by decide +kernel
theorem dL_pays_61 : decode cL_pays 61 = .ok (.isub, 1) := by decide +kernel
theorem dL_pays_62 : decode cL_pays 62 = .ok (.goto 4, 3) := by decide +kernel
theorem dL_pays_65 : decode cL_pays 65 = .ok (.iconst 0, 1) := by decide +kernel
theorem dL_pays_66 : decode cL_pays 66 = .ok (.istore 8, 2) := by decide +kernel
theorem dL_pays_68 : decode cL_pays 68 = .ok (.iload 7, 2) := by decide +kernel
theorem dL_pays_70 : decode cL_pays 70 = .ok (.iload 8, 2) := by decide +kernel
theorem dL_pays_72 : decode cL_pays 72 = .ok (.iadd, 1) := by decide +kernel
theorem dL_pays_73 : decode cL_pays 73 = .ok (.iload_n 0, 1) := by decide +kernel
theorem dL_pays_74 : decode cL_pays 74 = .ok (.iload 6, 2) := by decide +kernel
theorem dL_pays_76 : decode cL_pays 76 = .ok (.iload 7, 2) := by decide +kernel
theorem dL_pays_78 : decode cL_pays 78 = .ok (.aload_n 1, 1) := by decide +kernel
theorem dL_pays_79 : decode cL_pays 79 = .ok (.aload_n 2, 1) := by decide +kernel
theorem dL_pays_80 : decode cL_pays 80 = .ok (.aload 4, 2) := by decide +kernel
theorem dL_pays_82 : decode cL_pays 82 = .ok (.invokestatic 65, 3) := by decide +kernel
theorem dL_pays_85 : decode cL_pays 85 = .ok (.isub, 1) := by decide +kernel
theorem dL_pays_86 : decode cL_pays 86 = .ok (.ireturn, 1) := by decide +kernel
set_option maxRecDepth 20000 in
theorem ggL_closes_L_pays : GoodIn wsL_closes wsL_pays := goodIn_r _ [4, 5, 6, 3, 7, 8, 9, 10, 11, 12, 13, 14, 15, 16, 17, 18, 19, 20, 21, 22, 23, 24, 25, 26, 27, 28, 29, 30, 31, 32, 33, 34] (by decide +kernel) (by decide +kernel)
set_option maxRecDepth 20000 in
theorem gL_closes_L_pays : GoodIn wsL_closes (va_wsS RL 68 yL_pays wsL_pays) := goodIn_app (goodIn_of _ (by decide +kernel)) ggL_closes_L_pays
set_option maxRecDepth 20000 in
theorem ggL_closes_L_open : GoodIn wsL_closes wsL_open := goodIn_r _ [7, 8, 9, 3, 10, 11, 12, 13, 14, 15, 16, 17, 18, 19, 20, 21, 22, 23, 24, 25, 26, 27, 28] (by decide +kernel) (by decide +kernel)
set_option maxRecDepth 20000 in
theorem gL_closes_L_open : GoodIn wsL_closes (va_wsS RL 57 yL_open wsL_open) := goodIn_app (goodIn_of _ (by decide +kernel)) ggL_closes_L_open
set_option maxRecDepth 20000 in
theorem ggL_closes_L_debtThen : GoodIn wsL_closes wsL_debtThen := goodIn_r _ [31] (by decide +kernel) (by decide +kernel)
set_option maxRecDepth 20000 in
theorem gL_closes_L_debtThen : GoodIn wsL_closes (va_wsS RL 61 yL_debtThen wsL_debtThen) := goodIn_app (goodIn_of _ (by decide +kernel)) ggL_closes_L_debtThen
set_option maxRecDepth 20000 in
theorem ggL_closes_L_due : GoodIn wsL_closes wsL_due := goodIn_r _ [10, 11, 12, 13, 3, 14, 15, 16, 17, 18, 19, 20, 21, 22, 23, 24, 25, 26, 27, 28] (by decide +kernel) (by decide +kernel)
set_option maxRecDepth 20000 in
theorem gL_closes_L_due : GoodIn wsL_closes (va_wsS RL 54 yL_due wsL_due) := goodIn_app (goodIn_of _ (by decide +kernel)) ggL_closes_L_due
set_option maxRecDepth 20000 in
theorem ggL_closes_L_recovers : GoodIn wsL_closes wsL_recovers := goodIn_r _ [34, 16, 17, 3, 18] (by decide +kernel) (by decide +kernel)
set_option maxRecDepth 20000 in
theorem gL_closes_L_recovers : GoodIn wsL_closes (va_wsS RL 65 yL_recovers wsL_recovers) := goodIn_app (goodIn_of _ (by decide +kernel)) ggL_closes_L_recovers
theorem dL_closes_0 : decode cL_closes 0 = .ok (.iload_n 0, 1) := by decide +kernel
theorem dL_closes_1 : decode cL_closes 1 = .ok (.aload_n 1, 1) := by decide +kernel
theorem dL_closes_2 : decode cL_closes 2 = .ok (.aload_n 2, 1) := by decide +kernel
theorem dL_closes_3 : decode cL_closes 3 = .ok (.aload_n 3, 1) := by decide +kernel
theorem dL_closes_4 : decode cL_closes 4 = .ok (.aload 5, 2) := by decide +kernel
theorem dL_closes_6 : decode cL_closes 6 = .ok (.invokestatic 68, 3) := by decide +kernel
theorem dL_closes_9 : decode cL_closes 9 = .ok (.istore 6, 2) := by decide +kernel
theorem dL_closes_11 : decode cL_closes 11 = .ok (.iload_n 0, 1) := by decide +kernel
theorem dL_closes_12 : decode cL_closes 12 = .ok (.iload_n 0, 1) := by decide +kernel
theorem dL_closes_13 : decode cL_closes 13 = .ok (.aload_n 1, 1) := by decide +kernel
theorem dL_closes_14 : decode cL_closes 14 = .ok (.aload_n 2, 1) := by decide +kernel
theorem dL_closes_15 : decode cL_closes 15 = .ok (.aload_n 3, 1) := by decide +kernel
theorem dL_closes_16 : decode cL_closes 16 = .ok (.aload 5, 2) := by decide +kernel
theorem dL_closes_18 : decode cL_closes 18 = .ok (.invokestatic 57, 3) := by decide +kernel
theorem dL_closes_21 : decode cL_closes 21 = .ok (.aload 5, 2) := by decide +kernel
theorem dL_closes_23 : decode cL_closes 23 = .ok (.invokestatic 61, 3) := by decide +kernel
theorem dL_closes_26 : decode cL_closes 26 = .ok (.istore 7, 2) := by decide +kernel
theorem dL_closes_28 : decode cL_closes 28 = .ok (.iload_n 0, 1) := by decide +kernel
theorem dL_closes_29 : decode cL_closes 29 = .ok (.iload 7, 2) := by decide +kernel
theorem dL_closes_31 : decode cL_closes 31 = .ok (.iload_n 0, 1) := by decide +kernel
theorem dL_closes_32 : decode cL_closes 32 = .ok (.aload 5, 2) := by decide +kernel
theorem dL_closes_34 : decode cL_closes 34 = .ok (.iconst 0, 1) := by decide +kernel
theorem dL_closes_35 : decode cL_closes 35 = .ok (.iaload, 1) := by decide +kernel
theorem dL_closes_36 : decode cL_closes 36 = .ok (.aload_n 1, 1) := by decide +kernel
theorem dL_closes_37 : decode cL_closes 37 = .ok (.aload_n 2, 1) := by decide +kernel
theorem dL_closes_38 : decode cL_closes 38 = .ok (.aload 5, 2) := by decide +kernel
theorem dL_closes_40 : decode cL_closes 40 = .ok (.invokestatic 54, 3) := by decide +kernel
theorem dL_closes_43 : decode cL_closes 43 = .ok (.aload_n 1, 1) := by decide +kernel
theorem dL_closes_44 : decode cL_closes 44 = .ok (.aload_n 2, 1) := by decide +kernel
theorem dL_closes_45 : decode cL_closes 45 = .ok (.aload 5, 2) := by decide +kernel
theorem dL_closes_47 : decode cL_closes 47 = .ok (.invokestatic 65, 3) := by decide +kernel
theorem dL_closes_50 : decode cL_closes 50 = .ok (.istore 8, 2) := by decide +kernel
theorem dL_closes_52 : decode cL_closes 52 = .ok (.aload 5, 2) := by decide +kernel
theorem dL_closes_54 : decode cL_closes 54 = .ok (.bipush 6, 2) := by decide +kernel
theorem dL_closes_56 : decode cL_closes 56 = .ok (.iload_n 0, 1) := by decide +kernel
theorem dL_closes_57 : decode cL_closes 57 = .ok (.iadd, 1) := by decide +kernel
theorem dL_closes_58 : decode cL_closes 58 = .ok (.iload 7, 2) := by decide +kernel
theorem dL_closes_60 : decode cL_closes 60 = .ok (.iload 8, 2) := by decide +kernel
theorem dL_closes_62 : decode cL_closes 62 = .ok (.isub, 1) := by decide +kernel
theorem dL_closes_63 : decode cL_closes 63 = .ok (.iastore, 1) := by decide +kernel
theorem dL_closes_64 : decode cL_closes 64 = .ok (.aload 5, 2) := by decide +kernel
theorem dL_closes_66 : decode cL_closes 66 = .ok (.bipush 8, 2) := by decide +kernel
theorem dL_closes_68 : decode cL_closes 68 = .ok (.iload_n 0, 1) := by decide +kernel
theorem dL_closes_69 : decode cL_closes 69 = .ok (.iadd, 1) := by decide +kernel
theorem dL_closes_70 : decode cL_closes 70 = .ok (.dup2, 1) := by decide +kernel
theorem dL_closes_71 : decode cL_closes 71 = .ok (.iaload, 1) := by decide +kernel
theorem dL_closes_72 : decode cL_closes 72 = .ok (.iload 8, 2) := by decide +kernel
theorem dL_closes_74 : decode cL_closes 74 = .ok (.iadd, 1) := by decide +kernel
theorem dL_closes_75 : decode cL_closes 75 = .ok (.iastore, 1) := by decide +kernel
theorem dL_closes_76 : decode cL_closes 76 = .ok (.aload 4, 2) := by decide +kernel
theorem dL_closes_78 : decode cL_closes 78 = .ok (.aload 5, 2) := by decide +kernel
theorem dL_closes_80 : decode cL_closes 80 = .ok (.iconst 0, 1) := by decide +kernel
theorem dL_closes_81 : decode cL_closes 81 = .ok (.iaload, 1) := by decide +kernel
theorem dL_closes_82 : decode cL_closes 82 = .ok (.iload 6, 2) := by decide +kernel
theorem dL_closes_84 : decode cL_closes 84 = .ok (.iastore, 1) := by decide +kernel
theorem dL_closes_85 : decode cL_closes 85 = .ok (.aload 5, 2) := by decide +kernel
theorem dL_closes_87 : decode cL_closes 87 = .ok (.iconst 4, 1) := by decide +kernel
theorem dL_closes_88 : decode cL_closes 88 = .ok (.iload_n 0, 1) := by decide +kernel
theorem dL_closes_89 : decode cL_closes 89 = .ok (.iadd, 1) := by decide +kernel
theorem dL_closes_90 : decode cL_closes 90 = .ok (.iaload, 1) := by decide +kernel
theorem dL_closes_91 : decode cL_closes 91 = .ok (.istore 9, 2) := by decide +kernel
theorem dL_closes_93 : decode cL_closes 93 = .ok (.iload 9, 2) := by decide +kernel
theorem dL_closes_95 : decode cL_closes 95 = .ok (.aload 5, 2) := by decide +kernel
theorem dL_closes_97 : decode cL_closes 97 = .ok (.iconst 0, 1) := by decide +kernel
theorem dL_closes_98 : decode cL_closes 98 = .ok (.iaload, 1) := by decide +kernel
theorem dL_closes_99 : decode cL_closes 99 = .ok (.if_icmp .gt 23, 3) := by decide +kernel
theorem dL_closes_102 : decode cL_closes 102 = .ok (.aload_n 3, 1) := by decide +kernel
theorem dL_closes_103 : decode cL_closes 103 = .ok (.iload 9, 2) := by decide +kernel
theorem dL_closes_105 : decode cL_closes 105 = .ok (.iload_n 0, 1) := by decide +kernel
theorem dL_closes_106 : decode cL_closes 106 = .ok (.iload 9, 2) := by decide +kernel
theorem dL_closes_108 : decode cL_closes 108 = .ok (.aload_n 1, 1) := by decide +kernel
theorem dL_closes_109 : decode cL_closes 109 = .ok (.aload_n 2, 1) := by decide +kernel
theorem dL_closes_110 : decode cL_closes 110 = .ok (.aload 5, 2) := by decide +kernel
theorem dL_closes_112 : decode cL_closes 112 = .ok (.invokestatic 54, 3) := by decide +kernel
theorem dL_closes_115 : decode cL_closes 115 = .ok (.iastore, 1) := by decide +kernel
theorem dL_closes_116 : decode cL_closes 116 = .ok (.iinc 9 1, 3) := by decide +kernel
theorem dL_closes_119 : decode cL_closes 119 = .ok (.goto (-26), 3) := by decide +kernel
theorem dL_closes_122 : decode cL_closes 122 = .ok (.iload 6, 2) := by decide +kernel
theorem dL_closes_124 : decode cL_closes 124 = .ok (.ireturn, 1) := by decide +kernel
set_option maxRecDepth 20000 in
theorem ggL_isHome_X1_debt : GoodIn wsL_isHome wsX1_debt := goodIn_ca (goodIn_r _ [5, 6, 7, 8, 4, 9, 10, 11, 12, 151, 152, 153, 154, 155, 156, 157, 158, 159, 160, 161, 162] (by decide +kernel) (by decide +kernel)) (goodIn_sub (fun _ h => List.mem_cons_of_mem _ (List.mem_append_left _ (List.mem_append_right _ h))) (by decide +kernel))
set_option maxRecDepth 20000 in
theorem gL_isHome_X1_debt : GoodIn wsL_isHome (wsV RL 71 RX1 yX1_debt wsX1_debt) := goodIn_app (goodIn_of _ (by decide +kernel)) ggL_isHome_X1_debt
set_option maxRecDepth 20000 in
theorem ggL_isHome_X1_recovered : GoodIn wsL_isHome wsX1_recovered := goodIn_ca (goodIn_r _ [16, 6, 7, 8, 4, 9, 10, 11, 12, 151, 152, 153, 154, 155, 156, 157, 158, 159, 160, 161, 162] (by decide +kernel) (by decide +kernel)) (goodIn_sub (fun _ h => List.mem_cons_of_mem _ (List.mem_append_left _ (List.mem_append_right _ h))) (by decide +kernel))
set_option maxRecDepth 20000 in
theorem gL_isHome_X1_recovered : GoodIn wsL_isHome (wsV RL 75 RX1 yX1_recovered wsX1_recovered) := goodIn_app (goodIn_of _ (by decide +kernel)) ggL_isHome_X1_recovered
set_option maxRecDepth 20000 in
theorem ggL_isHome_X1_unassessed : GoodIn wsL_isHome wsX1_unassessed := goodIn_ca (goodIn_r _ [20, 21, 6, 7, 8, 4, 9, 10, 11, 12, 22, 23, 24, 25, 26, 27, 28, 29, 30, 31, 32, 33, 34, 35, 36, 37, 38, 39, 40, 41, 42, 43, 44, 45, 46, 47, 48, 49, 50, 51, 52, 53, 54, 160, 161, 162, 151, 152, 153, 154, 155, 156, 157, 158, 159] (by decide +kernel) (by decide +kernel)) (goodIn_sub (fun _ h => List.mem_cons_of_mem _ (List.mem_append_left _ (List.mem_append_right _ h))) (by decide +kernel))
set_option maxRecDepth 20000 in
theorem gL_isHome_X1_unassessed : GoodIn wsL_isHome (wsV RL 78 RX1 yX1_unassessed wsX1_unassessed) := goodIn_app (goodIn_of _ (by decide +kernel)) ggL_isHome_X1_unassessed
set_option maxRecDepth 20000 in
theorem ggL_isHome_L_open : GoodIn wsL_isHome wsL_open := goodIn_r _ [58, 59, 60, 57, 61, 62, 63, 64, 65, 66, 67, 68, 69, 70, 71, 72, 73, 74, 75, 76, 77, 78, 79] (by decide +kernel) (by decide +kernel)
set_option maxRecDepth 20000 in
theorem gL_isHome_L_open : GoodIn wsL_isHome (va_wsS RL 57 yL_open wsL_open) := goodIn_app (goodIn_of _ (by decide +kernel)) ggL_isHome_L_open
set_option maxRecDepth 20000 in
theorem ggL_isHome_X1_wouldPay : GoodIn wsL_isHome wsX1_wouldPay := goodIn_ca (goodIn_r _ [83, 21, 6, 7, 8, 4, 9, 10, 11, 12, 84, 23, 85, 86, 87, 22, 24, 25, 26, 27, 28, 29, 30, 31, 32, 33, 34, 35, 36, 37, 38, 39, 40, 41, 42, 43, 44, 45, 46, 47, 48, 49, 50, 51, 52, 53, 54, 88, 89, 90, 91, 92, 93, 94, 95, 96, 97, 98, 99, 100, 101, 160, 161, 162, 151, 152, 153, 154, 155, 156, 157, 158, 159] (by decide +kernel) (by decide +kernel)) (goodIn_sub (fun _ h => List.mem_cons_of_mem _ (List.mem_append_left _ (List.mem_append_right _ h))) (by decide +kernel))
set_option maxRecDepth 20000 in
theorem gL_isHome_X1_wouldPay : GoodIn wsL_isHome (wsV RL 81 RX1 yX1_wouldPay wsX1_wouldPay) := goodIn_app (goodIn_of _ (by decide +kernel)) ggL_isHome_X1_wouldPay
set_option maxRecDepth 20000 in
theorem ggL_isHome_L_pays : GoodIn wsL_isHome wsL_pays := goodIn_r _ [104, 55, 56, 57, 58, 59, 60, 61, 62, 63, 64, 65, 66, 67, 68, 69, 70, 71, 72, 73, 74, 75, 76, 77, 78, 79, 105, 106, 107, 108, 109, 110] (by decide +kernel) (by decide +kernel)
set_option maxRecDepth 20000 in
theorem gL_isHome_L_pays : GoodIn wsL_isHome (va_wsS RL 68 yL_pays wsL_pays) := goodIn_app (goodIn_of _ (by decide +kernel)) ggL_isHome_L_pays
set_option maxRecDepth 20000 in
theorem ggL_isHome_X1_assessed : GoodIn wsL_isHome wsX1_assessed := goodIn_ca (goodIn_r _ [114, 6, 7, 8, 4, 9, 10, 11, 12, 115, 116, 117, 151, 152, 153, 154, 155, 156, 157, 158, 159, 160, 161, 162] (by decide +kernel) (by decide +kernel)) (goodIn_sub (fun _ h => List.mem_cons_of_mem _ (List.mem_append_left _ (List.mem_append_right _ h))) (by decide +kernel))
set_option maxRecDepth 20000 in
theorem gL_isHome_X1_assessed : GoodIn wsL_isHome (wsV RL 84 RX1 yX1_assessed wsX1_assessed) := goodIn_app (goodIn_of _ (by decide +kernel)) ggL_isHome_X1_assessed
set_option maxRecDepth 20000 in
theorem ggL_isHome_X1_paid : GoodIn wsL_isHome wsX1_paid := goodIn_ca (goodIn_r _ [121, 6, 7, 8, 4, 9, 10, 11, 12, 115, 116, 117, 151, 152, 153, 154, 155, 156, 157, 158, 159, 160, 161, 162] (by decide +kernel) (by decide +kernel)) (goodIn_sub (fun _ h => List.mem_cons_of_mem _ (List.mem_append_left _ (List.mem_append_right _ h))) (by decide +kernel))
set_option maxRecDepth 20000 in
theorem gL_isHome_X1_paid : GoodIn wsL_isHome (wsV RL 87 RX1 yX1_paid wsX1_paid) := goodIn_app (goodIn_of _ (by decide +kernel)) ggL_isHome_X1_paid
set_option maxRecDepth 20000 in
theorem ggL_isHome_L_low : GoodIn wsL_isHome wsL_low := goodIn_r _ [124, 125] (by decide +kernel) (by decide +kernel)
set_option maxRecDepth 20000 in
theorem gL_isHome_L_low : GoodIn wsL_isHome (va_wsS RL 90 yL_low wsL_low) := goodIn_app (goodIn_of _ (by decide +kernel)) ggL_isHome_L_low
set_option maxRecDepth 20000 in
theorem ggL_isHome_X1_need : GoodIn wsL_isHome wsX1_need := goodIn_ca (goodIn_r _ [129, 6, 7, 8, 4, 9, 10, 11, 12, 115, 116, 117, 35, 23, 36, 37, 32, 38, 39, 40, 41, 42, 160, 161, 162, 151, 152, 153, 154, 155, 156, 157, 158, 159] (by decide +kernel) (by decide +kernel)) (goodIn_sub (fun _ h => List.mem_cons_of_mem _ (List.mem_append_left _ (List.mem_append_right _ h))) (by decide +kernel))
set_option maxRecDepth 20000 in
theorem gL_isHome_X1_need : GoodIn wsL_isHome (wsV RL 93 RX1 yX1_need wsX1_need) := goodIn_app (goodIn_of _ (by decide +kernel)) ggL_isHome_X1_need
set_option maxRecDepth 20000 in
theorem ggL_isHome_L_need : GoodIn wsL_isHome wsL_need := goodIn_r _ [65, 66, 67, 68, 57, 69] (by decide +kernel) (by decide +kernel)
set_option maxRecDepth 20000 in
theorem gL_isHome_L_need : GoodIn wsL_isHome (va_wsS RL 43 yL_need wsL_need) := goodIn_app (goodIn_of _ (by decide +kernel)) ggL_isHome_L_need
set_option maxRecDepth 20000 in
theorem ggL_isHome_X1_taper : GoodIn wsL_isHome wsX1_taper := goodIn_ca (goodIn_r _ [133, 6, 7, 8, 4, 9, 10, 11, 12, 115, 116, 117, 44, 23, 45, 46, 32, 47, 48, 41, 49, 160, 161, 162, 151, 152, 153, 154, 155, 156, 157, 158, 159] (by decide +kernel) (by decide +kernel)) (goodIn_sub (fun _ h => List.mem_cons_of_mem _ (List.mem_append_left _ (List.mem_append_right _ h))) (by decide +kernel))
set_option maxRecDepth 20000 in
theorem gL_isHome_X1_taper : GoodIn wsL_isHome (wsV RL 95 RX1 yX1_taper wsX1_taper) := goodIn_app (goodIn_of _ (by decide +kernel)) ggL_isHome_X1_taper
set_option maxRecDepth 20000 in
theorem ggL_isHome_L_taper : GoodIn wsL_isHome wsL_taper := goodIn_r _ [72, 73, 74, 75, 67, 68, 57, 69] (by decide +kernel) (by decide +kernel)
set_option maxRecDepth 20000 in
theorem gL_isHome_L_taper : GoodIn wsL_isHome (va_wsS RL 47 yL_taper wsL_taper) := goodIn_app (goodIn_of _ (by decide +kernel)) ggL_isHome_L_taper
set_option maxRecDepth 20000 in
theorem ggL_isHome_X1_tariff : GoodIn wsL_isHome wsX1_tariff := goodIn_ca (goodIn_r _ [137, 6, 7, 8, 4, 9, 10, 11, 12, 115, 116, 117, 51, 23, 52, 53, 32, 54, 47, 48, 41, 49, 160, 161, 162, 151, 152, 153, 154, 155, 156, 157, 158, 159] (by decide +kernel) (by decide +kernel)) (goodIn_sub (fun _ h => List.mem_cons_of_mem _ (List.mem_append_left _ (List.mem_append_right _ h))) (by decide +kernel))
set_option maxRecDepth 20000 in
theorem gL_isHome_X1_tariff : GoodIn wsL_isHome (wsV RL 97 RX1 yX1_tariff wsX1_tariff) := goodIn_app (goodIn_of _ (by decide +kernel)) ggL_isHome_X1_tariff
set_option maxRecDepth 20000 in
theorem ggL_isHome_L_tariff : GoodIn wsL_isHome wsL_tariff := goodIn_r _ [78, 79, 67, 68, 57, 69] (by decide +kernel) (by decide +kernel)
set_option maxRecDepth 20000 in
theorem gL_isHome_L_tariff : GoodIn wsL_isHome (va_wsS RL 50 yL_tariff wsL_tariff) := goodIn_app (goodIn_of _ (by decide +kernel)) ggL_isHome_L_tariff
set_option maxRecDepth 20000 in
theorem ggL_isHome_X1_due : GoodIn wsL_isHome wsX1_due := goodIn_ca (goodIn_r _ [141, 6, 7, 8, 4, 9, 10, 11, 12, 115, 116, 117, 29, 23, 30, 31, 32, 33, 34, 35, 36, 37, 38, 39, 40, 41, 42, 43, 44, 45, 46, 47, 48, 49, 50, 51, 52, 53, 54, 160, 161, 162, 151, 152, 153, 154, 155, 156, 157, 158, 159] (by decide +kernel) (by decide +kernel)) (goodIn_sub (fun _ h => List.mem_cons_of_mem _ (List.mem_append_left _ (List.mem_append_right _ h))) (by decide +kernel))
set_option maxRecDepth 20000 in
theorem gL_isHome_X1_due : GoodIn wsL_isHome (wsV RL 99 RX1 yX1_due wsX1_due) := goodIn_app (goodIn_of _ (by decide +kernel)) ggL_isHome_X1_due
set_option maxRecDepth 20000 in
theorem ggL_isHome_L_due : GoodIn wsL_isHome wsL_due := goodIn_r _ [61, 62, 63, 64, 57, 65, 66, 67, 68, 69, 70, 71, 72, 73, 74, 75, 76, 77, 78, 79] (by decide +kernel) (by decide +kernel)
set_option maxRecDepth 20000 in
theorem gL_isHome_L_due : GoodIn wsL_isHome (va_wsS RL 54 yL_due wsL_due) := goodIn_app (goodIn_of _ (by decide +kernel)) ggL_isHome_L_due
set_option maxRecDepth 20000 in
theorem ggL_isHome_X1_fact : GoodIn wsL_isHome wsX1_fact := goodIn_ca (goodIn_ca (goodIn_r _ [145, 6, 7, 8, 4, 9, 10, 11, 12, 115, 116, 117, 146, 147, 148, 149, 150, 151, 152, 153, 154, 155, 156, 157, 158, 159, 160, 161, 162] (by decide +kernel) (by decide +kernel)) (goodIn_sub (fun _ h => List.mem_cons_of_mem _ (List.mem_append_left _ (List.mem_append_right _ h))) (by decide +kernel))) (goodIn_sub (fun _ h => List.mem_cons_of_mem _ (List.mem_append_right _ h)) (by decide +kernel))
set_option maxRecDepth 20000 in
theorem gL_isHome_X1_fact : GoodIn wsL_isHome (wsV RL 101 RX1 yX1_fact wsX1_fact) := goodIn_app (goodIn_of _ (by decide +kernel)) ggL_isHome_X1_fact
set_option maxRecDepth 20000 in
theorem ggL_isHome_L_fact : GoodIn wsL_isHome wsL_fact := goodIn_r _ [69] (by decide +kernel) (by decide +kernel)
set_option maxRecDepth 20000 in
theorem gL_isHome_L_fact : GoodIn wsL_isHome (va_wsS RL 29 yL_fact wsL_fact) := goodIn_app (goodIn_of _ (by decide +kernel)) ggL_isHome_L_fact
theorem dL_isHome_0 : decode cL_isHome 0 = .ok (.aload_n 0, 1) := by decide +kernel
theorem dL_isHome_1 : decode cL_isHome 1 = .ok (.iload_n 1, 1) := by decide +kernel
theorem dL_isHome_2 : decode cL_isHome 2 = .ok (.invokevirtual 71, 3) := by decide +kernel
theorem dL_isHome_5 : decode cL_isHome 5 = .ok (.aload 7, 2) := by decide +kernel
theorem dL_isHome_7 : decode cL_isHome 7 = .ok (.bipush 6, 2) := by decide +kernel
theorem dL_isHome_9 : decode cL_isHome 9 = .ok (.iload_n 1, 1) := by decide +kernel
theorem dL_isHome_10 : decode cL_isHome 10 = .ok (.iadd, 1) := by decide +kernel
theorem dL_isHome_11 : decode cL_isHome 11 = .ok (.iaload, 1) := by decide +kernel
theorem dL_isHome_12 : decode cL_isHome 12 = .ok (.if_icmp .ne 73, 3) := by decide +kernel
theorem dL_isHome_15 : decode cL_isHome 15 = .ok (.aload_n 0, 1) := by decide +kernel
theorem dL_isHome_16 : decode cL_isHome 16 = .ok (.iload_n 1, 1) := by decide +kernel
theorem dL_isHome_17 : decode cL_isHome 17 = .ok (.invokevirtual 75, 3) := by decide +kernel
theorem dL_isHome_20 : decode cL_isHome 20 = .ok (.aload 7, 2) := by decide +kernel
theorem dL_isHome_22 : decode cL_isHome 22 = .ok (.bipush 8, 2) := by decide +kernel
theorem dL_isHome_24 : decode cL_isHome 24 = .ok (.iload_n 1, 1) := by decide +kernel
theorem dL_isHome_25 : decode cL_isHome 25 = .ok (.iadd, 1) := by decide +kernel
theorem dL_isHome_26 : decode cL_isHome 26 = .ok (.iaload, 1) := by decide +kernel
theorem dL_isHome_27 : decode cL_isHome 27 = .ok (.if_icmp .ne 58, 3) := by decide +kernel
theorem dL_isHome_30 : decode cL_isHome 30 = .ok (.aload_n 0, 1) := by decide +kernel
theorem dL_isHome_31 : decode cL_isHome 31 = .ok (.iload_n 1, 1) := by decide +kernel
theorem dL_isHome_32 : decode cL_isHome 32 = .ok (.invokevirtual 78, 3) := by decide +kernel
theorem dL_isHome_35 : decode cL_isHome 35 = .ok (.iload_n 1, 1) := by decide +kernel
theorem dL_isHome_36 : decode cL_isHome 36 = .ok (.aload_n 3, 1) := by decide +kernel
theorem dL_isHome_37 : decode cL_isHome 37 = .ok (.aload 4, 2) := by decide +kernel
theorem dL_isHome_39 : decode cL_isHome 39 = .ok (.aload 5, 2) := by decide +kernel
theorem dL_isHome_41 : decode cL_isHome 41 = .ok (.aload 7, 2) := by decide +kernel
theorem dL_isHome_43 : decode cL_isHome 43 = .ok (.invokestatic 57, 3) := by decide +kernel
theorem dL_isHome_46 : decode cL_isHome 46 = .ok (.if_icmp .ne 39, 3) := by decide +kernel
theorem dL_isHome_49 : decode cL_isHome 49 = .ok (.aload_n 0, 1) := by decide +kernel
theorem dL_isHome_50 : decode cL_isHome 50 = .ok (.iload_n 1, 1) := by decide +kernel
theorem dL_isHome_51 : decode cL_isHome 51 = .ok (.invokevirtual 81, 3) := by decide +kernel
theorem dL_isHome_54 : decode cL_isHome 54 = .ok (.aload 7, 2) := by decide +kernel
theorem dL_isHome_56 : decode cL_isHome 56 = .ok (.iconst 0, 1) := by decide +kernel
theorem dL_isHome_57 : decode cL_isHome 57 = .ok (.iaload, 1) := by decide +kernel
theorem dL_isHome_58 : decode cL_isHome 58 = .ok (.bipush 48, 2) := by decide +kernel
theorem dL_isHome_60 : decode cL_isHome 60 = .ok (.if_icmp .ne 7, 3) := by decide +kernel
theorem dL_isHome_63 : decode cL_isHome 63 = .ok (.iconst 0, 1) := by decide +kernel
theorem dL_isHome_64 : decode cL_isHome 64 = .ok (.goto 14, 3) := by decide +kernel
theorem dL_isHome_67 : decode cL_isHome 67 = .ok (.iload_n 1, 1) := by decide +kernel
theorem dL_isHome_68 : decode cL_isHome 68 = .ok (.aload_n 3, 1) := by decide +kernel
theorem dL_isHome_69 : decode cL_isHome 69 = .ok (.aload 4, 2) := by decide +kernel
theorem dL_isHome_71 : decode cL_isHome 71 = .ok (.aload 5, 2) := by decide +kernel
theorem dL_isHome_73 : decode cL_isHome 73 = .ok (.aload 7, 2) := by decide +kernel
theorem dL_isHome_75 : decode cL_isHome 75 = .ok (.invokestatic 68, 3) := by decide +kernel
theorem dL_isHome_78 : decode cL_isHome 78 = .ok (.if_icmp .ne 7, 3) := by decide +kernel
theorem dL_isHome_81 : decode cL_isHome 81 = .ok (.iconst 1, 1) := by decide +kernel
theorem dL_isHome_82 : decode cL_isHome 82 = .ok (.goto 4, 3) := by decide +kernel
theorem dL_isHome_85 : decode cL_isHome 85 = .ok (.iconst 0, 1) := by decide +kernel
theorem dL_isHome_86 : decode cL_isHome 86 = .ok (.istore 8, 2) := by decide +kernel
theorem dL_isHome_88 : decode cL_isHome 88 = .ok (.iconst 0, 1) := by decide +kernel
theorem dL_isHome_89 : decode cL_isHome 89 = .ok (.istore 9, 2) := by decide +kernel
theorem dL_isHome_91 : decode cL_isHome 91 = .ok (.iload 9, 2) := by decide +kernel
theorem dL_isHome_93 : decode cL_isHome 93 = .ok (.bipush 48, 2) := by decide +kernel
theorem dL_isHome_95 : decode cL_isHome 95 = .ok (.if_icmp .ge 51, 3) := by decide +kernel
theorem dL_isHome_98 : decode cL_isHome 98 = .ok (.iload 8, 2) := by decide +kernel
