theorem dX2_factOf_46 : decode cX2_factOf 46 = .ok (.iload 6, 2) := by decide +kernel
theorem dX2_factOf_48 : decode cX2_factOf 48 = .ok (.iaload, 1) := by decide +kernel
theorem dX2_factOf_49 : decode cX2_factOf 49 = .ok (.iload_n 3, 1) := by decide +kernel
theorem dX2_factOf_50 : decode cX2_factOf 50 = .ok (.if_icmp .gt 19, 3) := by decide +kernel
theorem dX2_factOf_53 : decode cX2_factOf 53 = .ok (.aload_n 0, 1) := by decide +kernel
theorem dX2_factOf_54 : decode cX2_factOf 54 = .ok (.getfield 19, 3) := by decide +kernel
theorem dX2_factOf_57 : decode cX2_factOf 57 = .ok (.iload 6, 2) := by decide +kernel
theorem dX2_factOf_59 : decode cX2_factOf 59 = .ok (.iaload, 1) := by decide +kernel
theorem dX2_factOf_60 : decode cX2_factOf 60 = .ok (.iload 5, 2) := by decide +kernel
theorem dX2_factOf_62 : decode cX2_factOf 62 = .ok (.if_icmp .lt 7, 3) := by decide +kernel
theorem dX2_factOf_65 : decode cX2_factOf 65 = .ok (.iconst 1, 1) := by decide +kernel
theorem dX2_factOf_66 : decode cX2_factOf 66 = .ok (.goto 4, 3) := by decide +kernel
theorem dX2_factOf_69 : decode cX2_factOf 69 = .ok (.iconst 0, 1) := by decide +kernel
theorem dX2_factOf_70 : decode cX2_factOf 70 = .ok (.istore 7, 2) := by decide +kernel
theorem dX2_factOf_72 : decode cX2_factOf 72 = .ok (.iload 7, 2) := by decide +kernel
theorem dX2_factOf_74 : decode cX2_factOf 74 = .ok (.ifCond .eq 13, 3) := by decide +kernel
theorem dX2_factOf_77 : decode cX2_factOf 77 = .ok (.aload_n 0, 1) := by decide +kernel
theorem dX2_factOf_78 : decode cX2_factOf 78 = .ok (.getfield 22, 3) := by decide +kernel
theorem dX2_factOf_81 : decode cX2_factOf 81 = .ok (.iload 6, 2) := by decide +kernel
theorem dX2_factOf_83 : decode cX2_factOf 83 = .ok (.iaload, 1) := by decide +kernel
theorem dX2_factOf_84 : decode cX2_factOf 84 = .ok (.goto 5, 3) := by decide +kernel
theorem dX2_factOf_87 : decode cX2_factOf 87 = .ok (.iload 4, 2) := by decide +kernel
theorem dX2_factOf_89 : decode cX2_factOf 89 = .ok (.istore 4, 2) := by decide +kernel
theorem dX2_factOf_91 : decode cX2_factOf 91 = .ok (.iload 7, 2) := by decide +kernel
theorem dX2_factOf_93 : decode cX2_factOf 93 = .ok (.ifCond .eq 13, 3) := by decide +kernel
theorem dX2_factOf_96 : decode cX2_factOf 96 = .ok (.aload_n 0, 1) := by decide +kernel
theorem dX2_factOf_97 : decode cX2_factOf 97 = .ok (.getfield 19, 3) := by decide +kernel
theorem dX2_factOf_100 : decode cX2_factOf 100 = .ok (.iload 6, 2) := by decide +kernel
theorem dX2_factOf_102 : decode cX2_factOf 102 = .ok (.iaload, 1) := by decide +kernel
theorem dX2_factOf_103 : decode cX2_factOf 103 = .ok (.goto 5, 3) := by decide +kernel
theorem dX2_factOf_106 : decode cX2_factOf 106 = .ok (.iload 5, 2) := by decide +kernel
theorem dX2_factOf_108 : decode cX2_factOf 108 = .ok (.istore 5, 2) := by decide +kernel
theorem dX2_factOf_110 : decode cX2_factOf 110 = .ok (.iinc 6 1, 3) := by decide +kernel
theorem dX2_factOf_113 : decode cX2_factOf 113 = .ok (.goto (-98), 3) := by decide +kernel
theorem dX2_factOf_116 : decode cX2_factOf 116 = .ok (.iload 4, 2) := by decide +kernel
theorem dX2_factOf_118 : decode cX2_factOf 118 = .ok (.ireturn, 1) := by decide +kernel
set_option maxRecDepth 20000 in
theorem ggX2_needOf_X2_factOf : GoodIn wsX2_needOf wsX2_factOf := goodIn_r _ [6, 7, 8, 9, 10, 11, 12, 5, 13, 14, 15, 16, 17, 18, 19, 20, 21, 22, 23, 24, 25, 26, 27, 28, 29] (by decide +kernel) (by decide +kernel)
set_option maxRecDepth 20000 in
theorem gX2_needOf_X2_factOf : GoodIn wsX2_needOf (wsV RX2 62 RX2 yX2_factOf wsX2_factOf) := goodIn_app (goodIn_of _ (by decide +kernel)) ggX2_needOf_X2_factOf
theorem dX2_needOf_0 : decode cX2_needOf 0 = .ok (.aload_n 0, 1) := by decide +kernel
theorem dX2_needOf_1 : decode cX2_needOf 1 = .ok (.iload_n 1, 1) := by decide +kernel
theorem dX2_needOf_2 : decode cX2_needOf 2 = .ok (.iconst 2, 1) := by decide +kernel
theorem dX2_needOf_3 : decode cX2_needOf 3 = .ok (.iload_n 2, 1) := by decide +kernel
theorem dX2_needOf_4 : decode cX2_needOf 4 = .ok (.invokevirtual 62, 3) := by decide +kernel
theorem dX2_needOf_7 : decode cX2_needOf 7 = .ok (.istore_n 3, 1) := by decide +kernel
theorem dX2_needOf_8 : decode cX2_needOf 8 = .ok (.sipush 30000, 3) := by decide +kernel
theorem dX2_needOf_11 : decode cX2_needOf 11 = .ok (.aload_n 0, 1) := by decide +kernel
theorem dX2_needOf_12 : decode cX2_needOf 12 = .ok (.iload_n 1, 1) := by decide +kernel
theorem dX2_needOf_13 : decode cX2_needOf 13 = .ok (.iconst 0, 1) := by decide +kernel
theorem dX2_needOf_14 : decode cX2_needOf 14 = .ok (.iload_n 2, 1) := by decide +kernel
theorem dX2_needOf_15 : decode cX2_needOf 15 = .ok (.invokevirtual 62, 3) := by decide +kernel
theorem dX2_needOf_18 : decode cX2_needOf 18 = .ok (.iconst 2, 1) := by decide +kernel
theorem dX2_needOf_19 : decode cX2_needOf 19 = .ok (.if_icmp .ne 9, 3) := by decide +kernel
theorem dX2_needOf_22 : decode cX2_needOf 22 = .ok (.sipush 12000, 3) := by decide +kernel
theorem dX2_needOf_25 : decode cX2_needOf 25 = .ok (.goto 4, 3) := by decide +kernel
theorem dX2_needOf_28 : decode cX2_needOf 28 = .ok (.iconst 0, 1) := by decide +kernel
theorem dX2_needOf_29 : decode cX2_needOf 29 = .ok (.iadd, 1) := by decide +kernel
theorem dX2_needOf_30 : decode cX2_needOf 30 = .ok (.sipush 8000, 3) := by decide +kernel
theorem dX2_needOf_33 : decode cX2_needOf 33 = .ok (.aload_n 0, 1) := by decide +kernel
theorem dX2_needOf_34 : decode cX2_needOf 34 = .ok (.iload_n 1, 1) := by decide +kernel
theorem dX2_needOf_35 : decode cX2_needOf 35 = .ok (.iconst 1, 1) := by decide +kernel
theorem dX2_needOf_36 : decode cX2_needOf 36 = .ok (.iload_n 2, 1) := by decide +kernel
theorem dX2_needOf_37 : decode cX2_needOf 37 = .ok (.invokevirtual 62, 3) := by decide +kernel
theorem dX2_needOf_40 : decode cX2_needOf 40 = .ok (.imul, 1) := by decide +kernel
theorem dX2_needOf_41 : decode cX2_needOf 41 = .ok (.iadd, 1) := by decide +kernel
theorem dX2_needOf_42 : decode cX2_needOf 42 = .ok (.iload_n 3, 1) := by decide +kernel
theorem dX2_needOf_43 : decode cX2_needOf 43 = .ok (.ldc 66, 2) := by decide +kernel
theorem dX2_needOf_45 : decode cX2_needOf 45 = .ok (.if_icmp .ge 7, 3) := by decide +kernel
theorem dX2_needOf_48 : decode cX2_needOf 48 = .ok (.iload_n 3, 1) := by decide +kernel
theorem dX2_needOf_49 : decode cX2_needOf 49 = .ok (.goto 5, 3) := by decide +kernel
theorem dX2_needOf_52 : decode cX2_needOf 52 = .ok (.ldc 66, 2) := by decide +kernel
theorem dX2_needOf_54 : decode cX2_needOf 54 = .ok (.iadd, 1) := by decide +kernel
theorem dX2_needOf_55 : decode cX2_needOf 55 = .ok (.ireturn, 1) := by decide +kernel
set_option maxRecDepth 20000 in
theorem ggX2_taperOf_X2_factOf : GoodIn wsX2_taperOf wsX2_factOf := goodIn_r _ [5, 6, 7, 8, 9, 10, 11, 4, 12, 13, 14, 15, 16, 17, 18, 19, 20, 21, 22, 23, 24, 25, 26, 27, 28] (by decide +kernel) (by decide +kernel)
set_option maxRecDepth 20000 in
theorem gX2_taperOf_X2_factOf : GoodIn wsX2_taperOf (wsV RX2 62 RX2 yX2_factOf wsX2_factOf) := goodIn_app (goodIn_of _ (by decide +kernel)) ggX2_taperOf_X2_factOf
theorem dX2_taperOf_0 : decode cX2_taperOf 0 = .ok (.aload_n 0, 1) := by decide +kernel
theorem dX2_taperOf_1 : decode cX2_taperOf 1 = .ok (.iload_n 1, 1) := by decide +kernel
theorem dX2_taperOf_2 : decode cX2_taperOf 2 = .ok (.iconst 3, 1) := by decide +kernel
theorem dX2_taperOf_3 : decode cX2_taperOf 3 = .ok (.iload_n 2, 1) := by decide +kernel
theorem dX2_taperOf_4 : decode cX2_taperOf 4 = .ok (.invokevirtual 62, 3) := by decide +kernel
theorem dX2_taperOf_7 : decode cX2_taperOf 7 = .ok (.sipush 20000, 3) := by decide +kernel
theorem dX2_taperOf_10 : decode cX2_taperOf 10 = .ok (.isub, 1) := by decide +kernel
theorem dX2_taperOf_11 : decode cX2_taperOf 11 = .ok (.istore_n 3, 1) := by decide +kernel
theorem dX2_taperOf_12 : decode cX2_taperOf 12 = .ok (.iload_n 3, 1) := by decide +kernel
theorem dX2_taperOf_13 : decode cX2_taperOf 13 = .ok (.ifCond .le 13, 3) := by decide +kernel
theorem dX2_taperOf_16 : decode cX2_taperOf 16 = .ok (.iload_n 3, 1) := by decide +kernel
theorem dX2_taperOf_17 : decode cX2_taperOf 17 = .ok (.bipush 60, 2) := by decide +kernel
theorem dX2_taperOf_19 : decode cX2_taperOf 19 = .ok (.imul, 1) := by decide +kernel
theorem dX2_taperOf_20 : decode cX2_taperOf 20 = .ok (.bipush 100, 2) := by decide +kernel
theorem dX2_taperOf_22 : decode cX2_taperOf 22 = .ok (.idiv, 1) := by decide +kernel
theorem dX2_taperOf_23 : decode cX2_taperOf 23 = .ok (.goto 4, 3) := by decide +kernel
theorem dX2_taperOf_26 : decode cX2_taperOf 26 = .ok (.iconst 0, 1) := by decide +kernel
theorem dX2_taperOf_27 : decode cX2_taperOf 27 = .ok (.ireturn, 1) := by decide +kernel
set_option maxRecDepth 20000 in
theorem ggX2_tariffOf_X2_factOf : GoodIn wsX2_tariffOf wsX2_factOf := goodIn_r _ [6, 7, 8, 9, 10, 11, 12, 5, 13, 14, 15, 16, 17, 18, 19, 20, 21, 22, 23, 24, 25, 26, 27, 28, 29] (by decide +kernel) (by decide +kernel)
set_option maxRecDepth 20000 in
theorem gX2_tariffOf_X2_factOf : GoodIn wsX2_tariffOf (wsV RX2 62 RX2 yX2_factOf wsX2_factOf) := goodIn_app (goodIn_of _ (by decide +kernel)) ggX2_tariffOf_X2_factOf
theorem dX2_tariffOf_0 : decode cX2_tariffOf 0 = .ok (.aload_n 0, 1) := by decide +kernel
theorem dX2_tariffOf_1 : decode cX2_tariffOf 1 = .ok (.iload_n 1, 1) := by decide +kernel
theorem dX2_tariffOf_2 : decode cX2_tariffOf 2 = .ok (.iconst 4, 1) := by decide +kernel
theorem dX2_tariffOf_3 : decode cX2_tariffOf 3 = .ok (.iload_n 2, 1) := by decide +kernel
theorem dX2_tariffOf_4 : decode cX2_tariffOf 4 = .ok (.invokevirtual 62, 3) := by decide +kernel
theorem dX2_tariffOf_7 : decode cX2_tariffOf 7 = .ok (.ldc 67, 2) := by decide +kernel
theorem dX2_tariffOf_9 : decode cX2_tariffOf 9 = .ok (.isub, 1) := by decide +kernel
theorem dX2_tariffOf_10 : decode cX2_tariffOf 10 = .ok (.istore_n 3, 1) := by decide +kernel
theorem dX2_tariffOf_11 : decode cX2_tariffOf 11 = .ok (.iload_n 3, 1) := by decide +kernel
theorem dX2_tariffOf_12 : decode cX2_tariffOf 12 = .ok (.ifCond .le 19, 3) := by decide +kernel
theorem dX2_tariffOf_15 : decode cX2_tariffOf 15 = .ok (.iload_n 3, 1) := by decide +kernel
theorem dX2_tariffOf_16 : decode cX2_tariffOf 16 = .ok (.sipush 24999, 3) := by decide +kernel
theorem dX2_tariffOf_19 : decode cX2_tariffOf 19 = .ok (.iadd, 1) := by decide +kernel
theorem dX2_tariffOf_20 : decode cX2_tariffOf 20 = .ok (.sipush 25000, 3) := by decide +kernel
theorem dX2_tariffOf_23 : decode cX2_tariffOf 23 = .ok (.idiv, 1) := by decide +kernel
theorem dX2_tariffOf_24 : decode cX2_tariffOf 24 = .ok (.sipush 500, 3) := by decide +kernel
theorem dX2_tariffOf_27 : decode cX2_tariffOf 27 = .ok (.imul, 1) := by decide +kernel
theorem dX2_tariffOf_28 : decode cX2_tariffOf 28 = .ok (.goto 4, 3) := by decide +kernel
theorem dX2_tariffOf_31 : decode cX2_tariffOf 31 = .ok (.iconst 0, 1) := by decide +kernel
theorem dX2_tariffOf_32 : decode cX2_tariffOf 32 = .ok (.ireturn, 1) := by decide +kernel
set_option maxRecDepth 20000 in
theorem ggX2_dueOf_X2_needOf : GoodIn wsX2_dueOf wsX2_needOf := goodIn_r _ [6, 7, 8, 9, 10, 5, 11, 12, 13, 14, 15, 16, 17, 18, 28, 29, 30, 31, 32, 33, 34, 35, 36, 37, 38, 39, 40, 41, 42, 43] (by decide +kernel) (by decide +kernel)
set_option maxRecDepth 20000 in
theorem gX2_dueOf_X2_needOf : GoodIn wsX2_dueOf (wsV RX2 68 RX2 yX2_needOf wsX2_needOf) := goodIn_app (goodIn_of _ (by decide +kernel)) ggX2_dueOf_X2_needOf
set_option maxRecDepth 20000 in
theorem ggX2_dueOf_X2_taperOf : GoodIn wsX2_dueOf wsX2_taperOf := goodIn_r _ [22, 8, 9, 10, 5, 11, 12, 13, 14, 15, 16, 17, 18, 28, 29, 30, 31, 32, 33, 34, 35, 36, 37, 38, 39, 40, 41, 42, 43] (by decide +kernel) (by decide +kernel)
set_option maxRecDepth 20000 in
theorem gX2_dueOf_X2_taperOf : GoodIn wsX2_dueOf (wsV RX2 72 RX2 yX2_taperOf wsX2_taperOf) := goodIn_app (goodIn_of _ (by decide +kernel)) ggX2_dueOf_X2_taperOf
set_option maxRecDepth 20000 in
theorem ggX2_dueOf_X2_tariffOf : GoodIn wsX2_dueOf wsX2_tariffOf := goodIn_r _ [26, 27, 8, 9, 10, 5, 11, 12, 13, 14, 15, 16, 17, 18, 28, 29, 30, 31, 32, 33, 34, 35, 36, 37, 38, 39, 40, 41, 42, 43] (by decide +kernel) (by decide +kernel)
set_option maxRecDepth 20000 in
theorem gX2_dueOf_X2_tariffOf : GoodIn wsX2_dueOf (wsV RX2 75 RX2 yX2_tariffOf wsX2_tariffOf) := goodIn_app (goodIn_of _ (by decide +kernel)) ggX2_dueOf_X2_tariffOf
set_option maxRecDepth 20000 in
theorem ggX2_dueOf_X2_factOf : GoodIn wsX2_dueOf wsX2_factOf := goodIn_r _ [11, 12, 13, 14, 15, 16, 17, 5, 18, 28, 29, 30, 31, 32, 33, 34, 35, 36, 37, 38, 39, 40, 41, 42, 43] (by decide +kernel) (by decide +kernel)
set_option maxRecDepth 20000 in
theorem gX2_dueOf_X2_factOf : GoodIn wsX2_dueOf (wsV RX2 62 RX2 yX2_factOf wsX2_factOf) := goodIn_app (goodIn_of _ (by decide +kernel)) ggX2_dueOf_X2_factOf
theorem dX2_dueOf_0 : decode cX2_dueOf 0 = .ok (.aload_n 0, 1) := by decide +kernel
theorem dX2_dueOf_1 : decode cX2_dueOf 1 = .ok (.iload_n 1, 1) := by decide +kernel
theorem dX2_dueOf_2 : decode cX2_dueOf 2 = .ok (.iload_n 2, 1) := by decide +kernel
theorem dX2_dueOf_3 : decode cX2_dueOf 3 = .ok (.invokevirtual 68, 3) := by decide +kernel
theorem dX2_dueOf_6 : decode cX2_dueOf 6 = .ok (.aload_n 0, 1) := by decide +kernel
theorem dX2_dueOf_7 : decode cX2_dueOf 7 = .ok (.iload_n 1, 1) := by decide +kernel
theorem dX2_dueOf_8 : decode cX2_dueOf 8 = .ok (.iload_n 2, 1) := by decide +kernel
theorem dX2_dueOf_9 : decode cX2_dueOf 9 = .ok (.invokevirtual 72, 3) := by decide +kernel
theorem dX2_dueOf_12 : decode cX2_dueOf 12 = .ok (.isub, 1) := by decide +kernel
theorem dX2_dueOf_13 : decode cX2_dueOf 13 = .ok (.aload_n 0, 1) := by decide +kernel
theorem dX2_dueOf_14 : decode cX2_dueOf 14 = .ok (.iload_n 1, 1) := by decide +kernel
theorem dX2_dueOf_15 : decode cX2_dueOf 15 = .ok (.iload_n 2, 1) := by decide +kernel
theorem dX2_dueOf_16 : decode cX2_dueOf 16 = .ok (.invokevirtual 75, 3) := by decide +kernel
theorem dX2_dueOf_19 : decode cX2_dueOf 19 = .ok (.isub, 1) := by decide +kernel
theorem dX2_dueOf_20 : decode cX2_dueOf 20 = .ok (.istore_n 3, 1) := by decide +kernel
theorem dX2_dueOf_21 : decode cX2_dueOf 21 = .ok (.iload_n 3, 1) := by decide +kernel
theorem dX2_dueOf_22 : decode cX2_dueOf 22 = .ok (.sipush 500, 3) := by decide +kernel
theorem dX2_dueOf_25 : decode cX2_dueOf 25 = .ok (.if_icmp .lt 15, 3) := by decide +kernel
theorem dX2_dueOf_28 : decode cX2_dueOf 28 = .ok (.aload_n 0, 1) := by decide +kernel
theorem dX2_dueOf_29 : decode cX2_dueOf 29 = .ok (.iload_n 1, 1) := by decide +kernel
theorem dX2_dueOf_30 : decode cX2_dueOf 30 = .ok (.iconst 4, 1) := by decide +kernel
theorem dX2_dueOf_31 : decode cX2_dueOf 31 = .ok (.iload_n 2, 1) := by decide +kernel
theorem dX2_dueOf_32 : decode cX2_dueOf 32 = .ok (.invokevirtual 62, 3) := by decide +kernel
theorem dX2_dueOf_35 : decode cX2_dueOf 35 = .ok (.ldc 78, 2) := by decide +kernel
theorem dX2_dueOf_37 : decode cX2_dueOf 37 = .ok (.if_icmp .le 7, 3) := by decide +kernel
theorem dX2_dueOf_40 : decode cX2_dueOf 40 = .ok (.iconst 0, 1) := by decide +kernel
theorem dX2_dueOf_41 : decode cX2_dueOf 41 = .ok (.goto 4, 3) := by decide +kernel
theorem dX2_dueOf_44 : decode cX2_dueOf 44 = .ok (.iload_n 3, 1) := by decide +kernel
theorem dX2_dueOf_45 : decode cX2_dueOf 45 = .ok (.ireturn, 1) := by decide +kernel
set_option maxRecDepth 20000 in
theorem ggX2_openOf_X2_dueOf : GoodIn wsX2_openOf wsX2_dueOf := goodIn_r _ [8, 9, 10, 11, 12, 7, 13, 14, 15, 16, 17, 18, 19, 20, 21, 22, 23, 24, 25, 26, 27, 28, 29, 30, 31, 32, 33, 34, 35, 36, 37, 38, 39, 40, 41, 42, 43, 44, 45, 46, 47, 48, 49, 50] (by decide +kernel) (by decide +kernel)
set_option maxRecDepth 20000 in
theorem gX2_openOf_X2_dueOf : GoodIn wsX2_openOf (wsV RX2 82 RX2 yX2_dueOf wsX2_dueOf) := goodIn_app (goodIn_of _ (by decide +kernel)) ggX2_openOf_X2_dueOf
theorem dX2_openOf_0 : decode cX2_openOf 0 = .ok (.iconst 0, 1) := by decide +kernel
theorem dX2_openOf_1 : decode cX2_openOf 1 = .ok (.istore_n 2, 1) := by decide +kernel
theorem dX2_openOf_2 : decode cX2_openOf 2 = .ok (.aload_n 0, 1) := by decide +kernel
theorem dX2_openOf_3 : decode cX2_openOf 3 = .ok (.getfield 7, 3) := by decide +kernel
theorem dX2_openOf_6 : decode cX2_openOf 6 = .ok (.iload_n 1, 1) := by decide +kernel
theorem dX2_openOf_7 : decode cX2_openOf 7 = .ok (.iaload, 1) := by decide +kernel
theorem dX2_openOf_8 : decode cX2_openOf 8 = .ok (.istore_n 3, 1) := by decide +kernel
theorem dX2_openOf_9 : decode cX2_openOf 9 = .ok (.iload_n 3, 1) := by decide +kernel
theorem dX2_openOf_10 : decode cX2_openOf 10 = .ok (.aload_n 0, 1) := by decide +kernel
theorem dX2_openOf_11 : decode cX2_openOf 11 = .ok (.getfield 79, 3) := by decide +kernel
theorem dX2_openOf_14 : decode cX2_openOf 14 = .ok (.if_icmp .ge 30, 3) := by decide +kernel
theorem dX2_openOf_17 : decode cX2_openOf 17 = .ok (.iload_n 2, 1) := by decide +kernel
theorem dX2_openOf_18 : decode cX2_openOf 18 = .ok (.aload_n 0, 1) := by decide +kernel
theorem dX2_openOf_19 : decode cX2_openOf 19 = .ok (.iload_n 1, 1) := by decide +kernel
theorem dX2_openOf_20 : decode cX2_openOf 20 = .ok (.iload_n 3, 1) := by decide +kernel
theorem dX2_openOf_21 : decode cX2_openOf 21 = .ok (.invokevirtual 82, 3) := by decide +kernel
theorem dX2_openOf_24 : decode cX2_openOf 24 = .ok (.aload_n 0, 1) := by decide +kernel
theorem dX2_openOf_25 : decode cX2_openOf 25 = .ok (.getfield 25, 3) := by decide +kernel
theorem dX2_openOf_28 : decode cX2_openOf 28 = .ok (.bipush 48, 2) := by decide +kernel
theorem dX2_openOf_30 : decode cX2_openOf 30 = .ok (.iload_n 1, 1) := by decide +kernel
theorem dX2_openOf_31 : decode cX2_openOf 31 = .ok (.imul, 1) := by decide +kernel
theorem dX2_openOf_32 : decode cX2_openOf 32 = .ok (.iload_n 3, 1) := by decide +kernel
theorem dX2_openOf_33 : decode cX2_openOf 33 = .ok (.iadd, 1) := by decide +kernel
theorem dX2_openOf_34 : decode cX2_openOf 34 = .ok (.iaload, 1) := by decide +kernel
theorem dX2_openOf_35 : decode cX2_openOf 35 = .ok (.isub, 1) := by decide +kernel
theorem dX2_openOf_36 : decode cX2_openOf 36 = .ok (.iadd, 1) := by decide +kernel
theorem dX2_openOf_37 : decode cX2_openOf 37 = .ok (.istore_n 2, 1) := by decide +kernel
theorem dX2_openOf_38 : decode cX2_openOf 38 = .ok (.iinc 3 1, 3) := by decide +kernel
theorem dX2_openOf_41 : decode cX2_openOf 41 = .ok (.goto (-32), 3) := by decide +kernel
theorem dX2_openOf_44 : decode cX2_openOf 44 = .ok (.iload_n 2, 1) := by decide +kernel
theorem dX2_openOf_45 : decode cX2_openOf 45 = .ok (.ireturn, 1) := by decide +kernel
theorem dX2_least_0 : decode cX2_least 0 = .ok (.iload_n 0, 1) := by decide +kernel
theorem dX2_least_1 : decode cX2_least 1 = .ok (.iload_n 1, 1) := by decide +kernel
theorem dX2_least_2 : decode cX2_least 2 = .ok (.if_icmp .ge 7, 3) := by decide +kernel
theorem dX2_least_5 : decode cX2_least 5 = .ok (.iload_n 0, 1) := by decide +kernel
theorem dX2_least_6 : decode cX2_least 6 = .ok (.goto 4, 3) := by decide +kernel
theorem dX2_least_9 : decode cX2_least 9 = .ok (.iload_n 1, 1) := by decide +kernel
theorem dX2_least_10 : decode cX2_least 10 = .ok (.ireturn, 1) := by decide +kernel
set_option maxRecDepth 20000 in
theorem ggX2_reckons_X2_openOf : GoodIn wsX2_reckons wsX2_openOf := goodIn_r _ [11, 12, 2, 13, 14, 15, 16, 10, 17, 18, 19, 20, 21, 22, 23, 24, 25, 26, 27, 28, 29, 30, 31, 32, 33, 34, 35, 36, 37, 38, 39, 40, 41, 42, 43, 47, 48, 49, 50, 51, 52, 53, 54, 55, 56, 57, 58, 59, 60, 61, 62] (by decide +kernel) (by decide +kernel)
set_option maxRecDepth 20000 in
theorem gX2_reckons_X2_openOf : GoodIn wsX2_reckons (wsV RX2 85 RX2 yX2_openOf wsX2_openOf) := goodIn_app (goodIn_of _ (by decide +kernel)) ggX2_reckons_X2_openOf
set_option maxRecDepth 20000 in
theorem ggX2_reckons_X2_least : GoodIn wsX2_reckons wsX2_least := goodIn_r _ [46] (by decide +kernel) (by decide +kernel)
set_option maxRecDepth 20000 in
theorem gX2_reckons_X2_least : GoodIn wsX2_reckons (va_wsS RX2 88 yX2_least wsX2_least) := goodIn_app (goodIn_of _ (by decide +kernel)) ggX2_reckons_X2_least
set_option maxRecDepth 20000 in
theorem ggX2_reckons_X2_dueOf : GoodIn wsX2_reckons wsX2_dueOf := goodIn_r _ [17, 18, 19, 20, 21, 10, 22, 23, 24, 25, 26, 27, 28, 29, 30, 31, 32, 33, 34, 35, 36, 37, 38, 39, 40, 41, 42, 43, 47, 48, 49, 50, 51, 52, 53, 54, 55, 56, 57, 58, 59, 60, 61, 62] (by decide +kernel) (by decide +kernel)
set_option maxRecDepth 20000 in
theorem gX2_reckons_X2_dueOf : GoodIn wsX2_reckons (wsV RX2 82 RX2 yX2_dueOf wsX2_dueOf) := goodIn_app (goodIn_of _ (by decide +kernel)) ggX2_reckons_X2_dueOf
set_option maxRecDepth 20000 in
theorem ggX2_reckons_X2_factOf : GoodIn wsX2_reckons wsX2_factOf := goodIn_r _ [27, 28, 29, 30, 31, 32, 33, 10, 34, 47, 48, 49, 50, 51, 52, 53, 54, 55, 56, 57, 58, 59, 60, 61, 62] (by decide +kernel) (by decide +kernel)
set_option maxRecDepth 20000 in
theorem gX2_reckons_X2_factOf : GoodIn wsX2_reckons (wsV RX2 62 RX2 yX2_factOf wsX2_factOf) := goodIn_app (goodIn_of _ (by decide +kernel)) ggX2_reckons_X2_factOf
theorem dX2_reckons_0 : decode cX2_reckons 0 = .ok (.aload_n 0, 1) := by decide +kernel
theorem dX2_reckons_1 : decode cX2_reckons 1 = .ok (.iload_n 1, 1) := by decide +kernel
theorem dX2_reckons_2 : decode cX2_reckons 2 = .ok (.invokevirtual 85, 3) := by decide +kernel
theorem dX2_reckons_5 : decode cX2_reckons 5 = .ok (.istore_n 2, 1) := by decide +kernel
theorem dX2_reckons_6 : decode cX2_reckons 6 = .ok (.iload_n 2, 1) := by decide +kernel
theorem dX2_reckons_7 : decode cX2_reckons 7 = .ok (.ifCond .le 16, 3) := by decide +kernel
theorem dX2_reckons_10 : decode cX2_reckons 10 = .ok (.iload_n 2, 1) := by decide +kernel
theorem dX2_reckons_11 : decode cX2_reckons 11 = .ok (.aload_n 0, 1) := by decide +kernel
theorem dX2_reckons_12 : decode cX2_reckons 12 = .ok (.getfield 31, 3) := by decide +kernel
theorem dX2_reckons_15 : decode cX2_reckons 15 = .ok (.iload_n 1, 1) := by decide +kernel
theorem dX2_reckons_16 : decode cX2_reckons 16 = .ok (.iaload, 1) := by decide +kernel
theorem dX2_reckons_17 : decode cX2_reckons 17 = .ok (.invokestatic 88, 3) := by decide +kernel
theorem dX2_reckons_20 : decode cX2_reckons 20 = .ok (.goto 4, 3) := by decide +kernel
theorem dX2_reckons_23 : decode cX2_reckons 23 = .ok (.iconst 0, 1) := by decide +kernel
theorem dX2_reckons_24 : decode cX2_reckons 24 = .ok (.istore_n 3, 1) := by decide +kernel
theorem dX2_reckons_25 : decode cX2_reckons 25 = .ok (.iload_n 2, 1) := by decide +kernel
theorem dX2_reckons_26 : decode cX2_reckons 26 = .ok (.ifCond .le 9, 3) := by decide +kernel
theorem dX2_reckons_29 : decode cX2_reckons 29 = .ok (.iload_n 2, 1) := by decide +kernel
theorem dX2_reckons_30 : decode cX2_reckons 30 = .ok (.iload_n 3, 1) := by decide +kernel
theorem dX2_reckons_31 : decode cX2_reckons 31 = .ok (.isub, 1) := by decide +kernel
theorem dX2_reckons_32 : decode cX2_reckons 32 = .ok (.goto 4, 3) := by decide +kernel
theorem dX2_reckons_35 : decode cX2_reckons 35 = .ok (.iconst 0, 1) := by decide +kernel
theorem dX2_reckons_36 : decode cX2_reckons 36 = .ok (.istore 4, 2) := by decide +kernel
theorem dX2_reckons_38 : decode cX2_reckons 38 = .ok (.aload_n 0, 1) := by decide +kernel
theorem dX2_reckons_39 : decode cX2_reckons 39 = .ok (.iload_n 1, 1) := by decide +kernel
theorem dX2_reckons_40 : decode cX2_reckons 40 = .ok (.aload_n 0, 1) := by decide +kernel
theorem dX2_reckons_41 : decode cX2_reckons 41 = .ok (.getfield 79, 3) := by decide +kernel
theorem dX2_reckons_44 : decode cX2_reckons 44 = .ok (.invokevirtual 82, 3) := by decide +kernel
theorem dX2_reckons_47 : decode cX2_reckons 47 = .ok (.istore 5, 2) := by decide +kernel
theorem dX2_reckons_49 : decode cX2_reckons 49 = .ok (.iload 5, 2) := by decide +kernel
theorem dX2_reckons_51 : decode cX2_reckons 51 = .ok (.aload_n 0, 1) := by decide +kernel
theorem dX2_reckons_52 : decode cX2_reckons 52 = .ok (.iload_n 1, 1) := by decide +kernel
theorem dX2_reckons_53 : decode cX2_reckons 53 = .ok (.iconst 3, 1) := by decide +kernel
theorem dX2_reckons_54 : decode cX2_reckons 54 = .ok (.aload_n 0, 1) := by decide +kernel
theorem dX2_reckons_55 : decode cX2_reckons 55 = .ok (.getfield 79, 3) := by decide +kernel
theorem dX2_reckons_58 : decode cX2_reckons 58 = .ok (.invokevirtual 62, 3) := by decide +kernel
theorem dX2_reckons_61 : decode cX2_reckons 61 = .ok (.iadd, 1) := by decide +kernel
theorem dX2_reckons_62 : decode cX2_reckons 62 = .ok (.sipush 25000, 3) := by decide +kernel
theorem dX2_reckons_65 : decode cX2_reckons 65 = .ok (.isub, 1) := by decide +kernel
theorem dX2_reckons_66 : decode cX2_reckons 66 = .ok (.istore 6, 2) := by decide +kernel
theorem dX2_reckons_68 : decode cX2_reckons 68 = .ok (.aload_n 0, 1) := by decide +kernel
theorem dX2_reckons_69 : decode cX2_reckons 69 = .ok (.iload_n 2, 1) := by decide +kernel
theorem dX2_reckons_70 : decode cX2_reckons 70 = .ok (.ifCond .le 14, 3) := by decide +kernel
theorem dX2_reckons_73 : decode cX2_reckons 73 = .ok (.aload_n 0, 1) := by decide +kernel
theorem dX2_reckons_74 : decode cX2_reckons 74 = .ok (.getfield 31, 3) := by decide +kernel
theorem dX2_reckons_77 : decode cX2_reckons 77 = .ok (.iload_n 1, 1) := by decide +kernel
theorem dX2_reckons_78 : decode cX2_reckons 78 = .ok (.iaload, 1) := by decide +kernel
theorem dX2_reckons_79 : decode cX2_reckons 79 = .ok (.iload_n 3, 1) := by decide +kernel
theorem dX2_reckons_80 : decode cX2_reckons 80 = .ok (.isub, 1) := by decide +kernel
theorem dX2_reckons_81 : decode cX2_reckons 81 = .ok (.goto 11, 3) := by decide +kernel
theorem dX2_reckons_84 : decode cX2_reckons 84 = .ok (.aload_n 0, 1) := by decide +kernel
theorem dX2_reckons_85 : decode cX2_reckons 85 = .ok (.getfield 31, 3) := by decide +kernel
theorem dX2_reckons_88 : decode cX2_reckons 88 = .ok (.iload_n 1, 1) := by decide +kernel
theorem dX2_reckons_89 : decode cX2_reckons 89 = .ok (.iaload, 1) := by decide +kernel
theorem dX2_reckons_90 : decode cX2_reckons 90 = .ok (.iload_n 2, 1) := by decide +kernel
theorem dX2_reckons_91 : decode cX2_reckons 91 = .ok (.isub, 1) := by decide +kernel
theorem dX2_reckons_92 : decode cX2_reckons 92 = .ok (.putfield 91, 3) := by decide +kernel
theorem dX2_reckons_95 : decode cX2_reckons 95 = .ok (.aload_n 0, 1) := by decide +kernel
theorem dX2_reckons_96 : decode cX2_reckons 96 = .ok (.aload_n 0, 1) := by decide +kernel
theorem dX2_reckons_97 : decode cX2_reckons 97 = .ok (.getfield 37, 3) := by decide +kernel
theorem dX2_reckons_100 : decode cX2_reckons 100 = .ok (.iload_n 1, 1) := by decide +kernel
theorem dX2_reckons_101 : decode cX2_reckons 101 = .ok (.baload, 1) := by decide +kernel
theorem dX2_reckons_102 : decode cX2_reckons 102 = .ok (.ifCond .ne 8, 3) := by decide +kernel
theorem dX2_reckons_105 : decode cX2_reckons 105 = .ok (.iload 6, 2) := by decide +kernel
theorem dX2_reckons_107 : decode cX2_reckons 107 = .ok (.ifCond .ge 7, 3) := by decide +kernel
theorem dX2_reckons_110 : decode cX2_reckons 110 = .ok (.iconst 0, 1) := by decide +kernel
theorem dX2_reckons_111 : decode cX2_reckons 111 = .ok (.goto 23, 3) := by decide +kernel
theorem dX2_reckons_114 : decode cX2_reckons 114 = .ok (.aload_n 0, 1) := by decide +kernel
theorem dX2_reckons_115 : decode cX2_reckons 115 = .ok (.getfield 91, 3) := by decide +kernel
theorem dX2_reckons_118 : decode cX2_reckons 118 = .ok (.iload 5, 2) := by decide +kernel
theorem dX2_reckons_120 : decode cX2_reckons 120 = .ok (.bipush 15, 2) := by decide +kernel
theorem dX2_reckons_122 : decode cX2_reckons 122 = .ok (.imul, 1) := by decide +kernel
theorem dX2_reckons_123 : decode cX2_reckons 123 = .ok (.bipush 100, 2) := by decide +kernel
theorem dX2_reckons_125 : decode cX2_reckons 125 = .ok (.idiv, 1) := by decide +kernel
theorem dX2_reckons_126 : decode cX2_reckons 126 = .ok (.iload 6, 2) := by decide +kernel
theorem dX2_reckons_128 : decode cX2_reckons 128 = .ok (.invokestatic 88, 3) := by decide +kernel
theorem dX2_reckons_131 : decode cX2_reckons 131 = .ok (.invokestatic 88, 3) := by decide +kernel
theorem dX2_reckons_134 : decode cX2_reckons 134 = .ok (.putfield 94, 3) := by decide +kernel
theorem dX2_reckons_137 : decode cX2_reckons 137 = .ok (.aload_n 0, 1) := by decide +kernel
theorem dX2_reckons_138 : decode cX2_reckons 138 = .ok (.iload 5, 2) := by decide +kernel
theorem dX2_reckons_140 : decode cX2_reckons 140 = .ok (.aload_n 0, 1) := by decide +kernel
theorem dX2_reckons_141 : decode cX2_reckons 141 = .ok (.getfield 94, 3) := by decide +kernel
theorem dX2_reckons_144 : decode cX2_reckons 144 = .ok (.isub, 1) := by decide +kernel
theorem dX2_reckons_145 : decode cX2_reckons 145 = .ok (.iload 4, 2) := by decide +kernel
theorem dX2_reckons_147 : decode cX2_reckons 147 = .ok (.iadd, 1) := by decide +kernel
theorem dX2_reckons_148 : decode cX2_reckons 148 = .ok (.putfield 97, 3) := by decide +kernel
theorem dX2_reckons_151 : decode cX2_reckons 151 = .ok (.return_, 1) := by decide +kernel
set_option maxRecDepth 20000 in
theorem ggX2_add_X2_fails : GoodIn wsX2_add wsX2_fails := goodIn_r _ [9, 1, 10, 11, 12, 13, 14, 15, 16, 17, 18, 19, 20, 21, 22, 23, 24, 25] (by decide +kernel) (by decide +kernel)
set_option maxRecDepth 20000 in
theorem gX2_add_X2_fails : GoodIn wsX2_add (wsV RX2 100 RX2 yX2_fails wsX2_fails) := goodIn_app (goodIn_of _ (by decide +kernel)) ggX2_add_X2_fails
theorem dX2_add_0 : decode cX2_add 0 = .ok (.aload_n 0, 1) := by decide +kernel
theorem dX2_add_1 : decode cX2_add 1 = .ok (.iconst 0, 1) := by decide +kernel
theorem dX2_add_2 : decode cX2_add 2 = .ok (.putfield 41, 3) := by decide +kernel
theorem dX2_add_5 : decode cX2_add 5 = .ok (.aload_n 0, 1) := by decide +kernel
theorem dX2_add_6 : decode cX2_add 6 = .ok (.getfield 45, 3) := by decide +kernel
theorem dX2_add_9 : decode cX2_add 9 = .ok (.bipush 6, 2) := by decide +kernel
theorem dX2_add_11 : decode cX2_add 11 = .ok (.if_icmp .eq 12, 3) := by decide +kernel
theorem dX2_add_14 : decode cX2_add 14 = .ok (.aload_n 0, 1) := by decide +kernel
theorem dX2_add_15 : decode cX2_add 15 = .ok (.getfield 79, 3) := by decide +kernel
theorem dX2_add_18 : decode cX2_add 18 = .ok (.bipush 48, 2) := by decide +kernel
theorem dX2_add_20 : decode cX2_add 20 = .ok (.if_icmp .ne 9, 3) := by decide +kernel
theorem dX2_add_23 : decode cX2_add 23 = .ok (.aload_n 0, 1) := by decide +kernel
theorem dX2_add_24 : decode cX2_add 24 = .ok (.iconst 1, 1) := by decide +kernel
theorem dX2_add_25 : decode cX2_add 25 = .ok (.invokevirtual 100, 3) := by decide +kernel
theorem dX2_add_28 : decode cX2_add 28 = .ok (.ireturn, 1) := by decide +kernel
theorem dX2_add_29 : decode cX2_add 29 = .ok (.aload_n 0, 1) := by decide +kernel
theorem dX2_add_30 : decode cX2_add 30 = .ok (.getfield 7, 3) := by decide +kernel
theorem dX2_add_33 : decode cX2_add 33 = .ok (.aload_n 0, 1) := by decide +kernel
theorem dX2_add_34 : decode cX2_add 34 = .ok (.getfield 45, 3) := by decide +kernel
theorem dX2_add_37 : decode cX2_add 37 = .ok (.aload_n 0, 1) := by decide +kernel
theorem dX2_add_38 : decode cX2_add 38 = .ok (.getfield 79, 3) := by decide +kernel
theorem dX2_add_41 : decode cX2_add 41 = .ok (.iastore, 1) := by decide +kernel
theorem dX2_add_42 : decode cX2_add 42 = .ok (.aload_n 0, 1) := by decide +kernel
theorem dX2_add_43 : decode cX2_add 43 = .ok (.dup, 1) := by decide +kernel
theorem dX2_add_44 : decode cX2_add 44 = .ok (.getfield 45, 3) := by decide +kernel
theorem dX2_add_47 : decode cX2_add 47 = .ok (.iconst 1, 1) := by decide +kernel
theorem dX2_add_48 : decode cX2_add 48 = .ok (.iadd, 1) := by decide +kernel
theorem dX2_add_49 : decode cX2_add 49 = .ok (.putfield 45, 3) := by decide +kernel
theorem dX2_add_52 : decode cX2_add 52 = .ok (.aload_n 0, 1) := by decide +kernel
theorem dX2_add_53 : decode cX2_add 53 = .ok (.getfield 45, 3) := by decide +kernel
theorem dX2_add_56 : decode cX2_add 56 = .ok (.iconst 1, 1) := by decide +kernel
theorem dX2_add_57 : decode cX2_add 57 = .ok (.isub, 1) := by decide +kernel
theorem dX2_add_58 : decode cX2_add 58 = .ok (.ireturn, 1) := by decide +kernel
set_option maxRecDepth 20000 in
theorem ggX2_tell_X2_isHome : GoodIn wsX2_tell wsX2_isHome := goodIn_r _ [10, 11, 12, 13, 9, 14, 27, 28, 29, 30, 31, 32, 33, 34, 35, 36, 37, 38, 39, 40, 41, 42] (by decide +kernel) (by decide +kernel)
set_option maxRecDepth 20000 in
theorem gX2_tell_X2_isHome : GoodIn wsX2_tell (wsV RX2 52 RX2 yX2_isHome wsX2_isHome) := goodIn_app (goodIn_of _ (by decide +kernel)) ggX2_tell_X2_isHome
set_option maxRecDepth 20000 in
theorem ggX2_tell_X2_fails : GoodIn wsX2_tell wsX2_fails := goodIn_r _ [18, 1, 27, 28, 29, 30, 31, 32, 33, 34, 35, 36, 37, 38, 39, 40, 41, 42] (by decide +kernel) (by decide +kernel)
set_option maxRecDepth 20000 in
theorem gX2_tell_X2_fails : GoodIn wsX2_tell (wsV RX2 100 RX2 yX2_fails wsX2_fails) := goodIn_app (goodIn_of _ (by decide +kernel)) ggX2_tell_X2_fails
set_option maxRecDepth 20000 in
theorem ggX2_tell_X2_in : GoodIn wsX2_tell wsX2_in := goodIn_r _ [14] (by decide +kernel) (by decide +kernel)
set_option maxRecDepth 20000 in
theorem gX2_tell_X2_in : GoodIn wsX2_tell (va_wsS RX2 48 yX2_in wsX2_in) := goodIn_app (goodIn_of _ (by decide +kernel)) ggX2_tell_X2_in
set_option maxRecDepth 20000 in
theorem ggX2_tell_X2_lowest : GoodIn wsX2_tell wsX2_lowest := goodIn_r _ [21] (by decide +kernel) (by decide +kernel)
set_option maxRecDepth 20000 in
theorem gX2_tell_X2_lowest : GoodIn wsX2_tell (va_wsS RX2 58 yX2_lowest wsX2_lowest) := goodIn_app (goodIn_of _ (by decide +kernel)) ggX2_tell_X2_lowest
set_option maxRecDepth 20000 in
theorem ggX2_tell_X2_greatest : GoodIn wsX2_tell wsX2_greatest := goodIn_r _ [24, 25, 26] (by decide +kernel) (by decide +kernel)
set_option maxRecDepth 20000 in
theorem gX2_tell_X2_greatest : GoodIn wsX2_tell (va_wsS RX2 103 yX2_greatest wsX2_greatest) := goodIn_app (goodIn_of _ (by decide +kernel)) ggX2_tell_X2_greatest
theorem dX2_tell_0 : decode cX2_tell 0 = .ok (.aload_n 0, 1) := by decide +kernel
theorem dX2_tell_1 : decode cX2_tell 1 = .ok (.iconst 0, 1) := by decide +kernel
theorem dX2_tell_2 : decode cX2_tell 2 = .ok (.putfield 41, 3) := by decide +kernel
theorem dX2_tell_5 : decode cX2_tell 5 = .ok (.aload_n 0, 1) := by decide +kernel
theorem dX2_tell_6 : decode cX2_tell 6 = .ok (.iload_n 1, 1) := by decide +kernel
theorem dX2_tell_7 : decode cX2_tell 7 = .ok (.invokevirtual 52, 3) := by decide +kernel
theorem dX2_tell_10 : decode cX2_tell 10 = .ok (.ifCond .ne 9, 3) := by decide +kernel
theorem dX2_tell_13 : decode cX2_tell 13 = .ok (.aload_n 0, 1) := by decide +kernel
theorem dX2_tell_14 : decode cX2_tell 14 = .ok (.iconst 1, 1) := by decide +kernel
theorem dX2_tell_15 : decode cX2_tell 15 = .ok (.invokevirtual 100, 3) := by decide +kernel
theorem dX2_tell_18 : decode cX2_tell 18 = .ok (.ireturn, 1) := by decide +kernel
theorem dX2_tell_19 : decode cX2_tell 19 = .ok (.iload_n 2, 1) := by decide +kernel
theorem dX2_tell_20 : decode cX2_tell 20 = .ok (.iconst 0, 1) := by decide +kernel
theorem dX2_tell_21 : decode cX2_tell 21 = .ok (.iconst 4, 1) := by decide +kernel
theorem dX2_tell_22 : decode cX2_tell 22 = .ok (.invokestatic 48, 3) := by decide +kernel
theorem dX2_tell_25 : decode cX2_tell 25 = .ok (.ifCond .eq 30, 3) := by decide +kernel
theorem dX2_tell_28 : decode cX2_tell 28 = .ok (.iload_n 3, 1) := by decide +kernel
theorem dX2_tell_29 : decode cX2_tell 29 = .ok (.iconst 0, 1) := by decide +kernel
theorem dX2_tell_30 : decode cX2_tell 30 = .ok (.sipush 1439, 3) := by decide +kernel
theorem dX2_tell_33 : decode cX2_tell 33 = .ok (.invokestatic 48, 3) := by decide +kernel
theorem dX2_tell_36 : decode cX2_tell 36 = .ok (.ifCond .eq 19, 3) := by decide +kernel
theorem dX2_tell_39 : decode cX2_tell 39 = .ok (.iload 4, 2) := by decide +kernel
theorem dX2_tell_41 : decode cX2_tell 41 = .ok (.iload_n 2, 1) := by decide +kernel
theorem dX2_tell_42 : decode cX2_tell 42 = .ok (.invokestatic 58, 3) := by decide +kernel
theorem dX2_tell_45 : decode cX2_tell 45 = .ok (.iload_n 2, 1) := by decide +kernel
theorem dX2_tell_46 : decode cX2_tell 46 = .ok (.invokestatic 103, 3) := by decide +kernel
theorem dX2_tell_49 : decode cX2_tell 49 = .ok (.invokestatic 48, 3) := by decide +kernel
theorem dX2_tell_52 : decode cX2_tell 52 = .ok (.ifCond .ne 9, 3) := by decide +kernel
theorem dX2_tell_55 : decode cX2_tell 55 = .ok (.aload_n 0, 1) := by decide +kernel
theorem dX2_tell_56 : decode cX2_tell 56 = .ok (.iconst 2, 1) := by decide +kernel
theorem dX2_tell_57 : decode cX2_tell 57 = .ok (.invokevirtual 100, 3) := by decide +kernel
theorem dX2_tell_60 : decode cX2_tell 60 = .ok (.ireturn, 1) := by decide +kernel
theorem dX2_tell_61 : decode cX2_tell 61 = .ok (.aload_n 0, 1) := by decide +kernel
theorem dX2_tell_62 : decode cX2_tell 62 = .ok (.getfield 13, 3) := by decide +kernel
theorem dX2_tell_65 : decode cX2_tell 65 = .ok (.iload_n 1, 1) := by decide +kernel
theorem dX2_tell_66 : decode cX2_tell 66 = .ok (.iaload, 1) := by decide +kernel
theorem dX2_tell_67 : decode cX2_tell 67 = .ok (.bipush 100, 2) := by decide +kernel
theorem dX2_tell_69 : decode cX2_tell 69 = .ok (.if_icmp .ne 9, 3) := by decide +kernel
theorem dX2_tell_72 : decode cX2_tell 72 = .ok (.aload_n 0, 1) := by decide +kernel
theorem dX2_tell_73 : decode cX2_tell 73 = .ok (.iconst 3, 1) := by decide +kernel
theorem dX2_tell_74 : decode cX2_tell 74 = .ok (.invokevirtual 100, 3) := by decide +kernel
theorem dX2_tell_77 : decode cX2_tell 77 = .ok (.ireturn, 1) := by decide +kernel
theorem dX2_tell_78 : decode cX2_tell 78 = .ok (.bipush 100, 2) := by decide +kernel
theorem dX2_tell_80 : decode cX2_tell 80 = .ok (.iload_n 1, 1) := by decide +kernel
theorem dX2_tell_81 : decode cX2_tell 81 = .ok (.imul, 1) := by decide +kernel
theorem dX2_tell_82 : decode cX2_tell 82 = .ok (.aload_n 0, 1) := by decide +kernel
theorem dX2_tell_83 : decode cX2_tell 83 = .ok (.getfield 13, 3) := by decide +kernel
theorem dX2_tell_86 : decode cX2_tell 86 = .ok (.iload_n 1, 1) := by decide +kernel
theorem dX2_tell_87 : decode cX2_tell 87 = .ok (.iaload, 1) := by decide +kernel
theorem dX2_tell_88 : decode cX2_tell 88 = .ok (.iadd, 1) := by decide +kernel
theorem dX2_tell_89 : decode cX2_tell 89 = .ok (.istore 5, 2) := by decide +kernel
theorem dX2_tell_91 : decode cX2_tell 91 = .ok (.aload_n 0, 1) := by decide +kernel
theorem dX2_tell_92 : decode cX2_tell 92 = .ok (.getfield 16, 3) := by decide +kernel
theorem dX2_tell_95 : decode cX2_tell 95 = .ok (.iload 5, 2) := by decide +kernel
theorem dX2_tell_97 : decode cX2_tell 97 = .ok (.iload_n 2, 1) := by decide +kernel
theorem dX2_tell_98 : decode cX2_tell 98 = .ok (.iastore, 1) := by decide +kernel
theorem dX2_tell_99 : decode cX2_tell 99 = .ok (.aload_n 0, 1) := by decide +kernel
theorem dX2_tell_100 : decode cX2_tell 100 = .ok (.getfield 19, 3) := by decide +kernel
theorem dX2_tell_103 : decode cX2_tell 103 = .ok (.iload 5, 2) := by decide +kernel
theorem dX2_tell_105 : decode cX2_tell 105 = .ok (.iload_n 3, 1) := by decide +kernel
theorem dX2_tell_106 : decode cX2_tell 106 = .ok (.bipush 30, 2) := by decide +kernel
theorem dX2_tell_108 : decode cX2_tell 108 = .ok (.idiv, 1) := by decide +kernel
theorem dX2_tell_109 : decode cX2_tell 109 = .ok (.iload_n 3, 1) := by decide +kernel
theorem dX2_tell_110 : decode cX2_tell 110 = .ok (.bipush 30, 2) := by decide +kernel
theorem dX2_tell_112 : decode cX2_tell 112 = .ok (.irem, 1) := by decide +kernel
theorem dX2_tell_113 : decode cX2_tell 113 = .ok (.bipush 15, 2) := by decide +kernel
theorem dX2_tell_115 : decode cX2_tell 115 = .ok (.if_icmp .ge 7, 3) := by decide +kernel
theorem dX2_tell_118 : decode cX2_tell 118 = .ok (.iconst 0, 1) := by decide +kernel
theorem dX2_tell_119 : decode cX2_tell 119 = .ok (.goto 4, 3) := by decide +kernel
theorem dX2_tell_122 : decode cX2_tell 122 = .ok (.iconst 1, 1) := by decide +kernel
theorem dX2_tell_123 : decode cX2_tell 123 = .ok (.iadd, 1) := by decide +kernel
theorem dX2_tell_124 : decode cX2_tell 124 = .ok (.iastore, 1) := by decide +kernel
theorem dX2_tell_125 : decode cX2_tell 125 = .ok (.aload_n 0, 1) := by decide +kernel
theorem dX2_tell_126 : decode cX2_tell 126 = .ok (.getfield 22, 3) := by decide +kernel
theorem dX2_tell_129 : decode cX2_tell 129 = .ok (.iload 5, 2) := by decide +kernel
theorem dX2_tell_131 : decode cX2_tell 131 = .ok (.iload 4, 2) := by decide +kernel
theorem dX2_tell_133 : decode cX2_tell 133 = .ok (.iastore, 1) := by decide +kernel
theorem dX2_tell_134 : decode cX2_tell 134 = .ok (.aload_n 0, 1) := by decide +kernel
theorem dX2_tell_135 : decode cX2_tell 135 = .ok (.getfield 13, 3) := by decide +kernel
theorem dX2_tell_138 : decode cX2_tell 138 = .ok (.iload_n 1, 1) := by decide +kernel
theorem dX2_tell_139 : decode cX2_tell 139 = .ok (.dup2, 1) := by decide +kernel
theorem dX2_tell_140 : decode cX2_tell 140 = .ok (.iaload, 1) := by decide +kernel
theorem dX2_tell_141 : decode cX2_tell 141 = .ok (.iconst 1, 1) := by decide +kernel
theorem dX2_tell_142 : decode cX2_tell 142 = .ok (.iadd, 1) := by decide +kernel
theorem dX2_tell_143 : decode cX2_tell 143 = .ok (.iastore, 1) := by decide +kernel
theorem dX2_tell_144 : decode cX2_tell 144 = .ok (.aload_n 0, 1) := by decide +kernel
theorem dX2_tell_145 : decode cX2_tell 145 = .ok (.getfield 19, 3) := by decide +kernel
theorem dX2_tell_148 : decode cX2_tell 148 = .ok (.iload 5, 2) := by decide +kernel
theorem dX2_tell_150 : decode cX2_tell 150 = .ok (.iaload, 1) := by decide +kernel
theorem dX2_tell_151 : decode cX2_tell 151 = .ok (.ireturn, 1) := by decide +kernel
set_option maxRecDepth 20000 in
theorem ggX2_dispute_X2_isHome : GoodIn wsX2_dispute wsX2_isHome := goodIn_r _ [7, 8, 9, 10, 6, 11, 12, 13, 14, 15, 16, 17, 18, 19, 20, 21, 22, 23, 24, 25, 26, 27] (by decide +kernel) (by decide +kernel)
set_option maxRecDepth 20000 in
theorem gX2_dispute_X2_isHome : GoodIn wsX2_dispute (wsV RX2 52 RX2 yX2_isHome wsX2_isHome) := goodIn_app (goodIn_of _ (by decide +kernel)) ggX2_dispute_X2_isHome
theorem dX2_dispute_0 : decode cX2_dispute 0 = .ok (.aload_n 0, 1) := by decide +kernel
theorem dX2_dispute_1 : decode cX2_dispute 1 = .ok (.aload_n 0, 1) := by decide +kernel
theorem dX2_dispute_2 : decode cX2_dispute 2 = .ok (.iload_n 1, 1) := by decide +kernel
theorem dX2_dispute_3 : decode cX2_dispute 3 = .ok (.invokevirtual 52, 3) := by decide +kernel
theorem dX2_dispute_6 : decode cX2_dispute 6 = .ok (.ifCond .eq 7, 3) := by decide +kernel
theorem dX2_dispute_9 : decode cX2_dispute 9 = .ok (.iconst 0, 1) := by decide +kernel
theorem dX2_dispute_10 : decode cX2_dispute 10 = .ok (.goto 4, 3) := by decide +kernel
theorem dX2_dispute_13 : decode cX2_dispute 13 = .ok (.iconst 1, 1) := by decide +kernel
theorem dX2_dispute_14 : decode cX2_dispute 14 = .ok (.putfield 41, 3) := by decide +kernel
theorem dX2_dispute_17 : decode cX2_dispute 17 = .ok (.aload_n 0, 1) := by decide +kernel
theorem dX2_dispute_18 : decode cX2_dispute 18 = .ok (.getfield 41, 3) := by decide +kernel
theorem dX2_dispute_21 : decode cX2_dispute 21 = .ok (.ifCond .ne 16, 3) := by decide +kernel
theorem dX2_dispute_24 : decode cX2_dispute 24 = .ok (.aload_n 0, 1) := by decide +kernel
theorem dX2_dispute_25 : decode cX2_dispute 25 = .ok (.getfield 37, 3) := by decide +kernel
theorem dX2_dispute_28 : decode cX2_dispute 28 = .ok (.iload_n 1, 1) := by decide +kernel
theorem dX2_dispute_29 : decode cX2_dispute 29 = .ok (.baload, 1) := by decide +kernel
theorem dX2_dispute_30 : decode cX2_dispute 30 = .ok (.ifCond .eq 7, 3) := by decide +kernel
theorem dX2_dispute_33 : decode cX2_dispute 33 = .ok (.iconst 1, 1) := by decide +kernel
theorem dX2_dispute_34 : decode cX2_dispute 34 = .ok (.goto 4, 3) := by decide +kernel
theorem dX2_dispute_37 : decode cX2_dispute 37 = .ok (.iconst 0, 1) := by decide +kernel
theorem dX2_dispute_38 : decode cX2_dispute 38 = .ok (.istore_n 3, 1) := by decide +kernel
theorem dX2_dispute_39 : decode cX2_dispute 39 = .ok (.aload_n 0, 1) := by decide +kernel
theorem dX2_dispute_40 : decode cX2_dispute 40 = .ok (.getfield 41, 3) := by decide +kernel
theorem dX2_dispute_43 : decode cX2_dispute 43 = .ok (.ifCond .ne 10, 3) := by decide +kernel
theorem dX2_dispute_46 : decode cX2_dispute 46 = .ok (.aload_n 0, 1) := by decide +kernel
theorem dX2_dispute_47 : decode cX2_dispute 47 = .ok (.getfield 37, 3) := by decide +kernel
theorem dX2_dispute_50 : decode cX2_dispute 50 = .ok (.iload_n 1, 1) := by decide +kernel
theorem dX2_dispute_51 : decode cX2_dispute 51 = .ok (.iload_n 2, 1) := by decide +kernel
theorem dX2_dispute_52 : decode cX2_dispute 52 = .ok (.bastore, 1) := by decide +kernel
theorem dX2_dispute_53 : decode cX2_dispute 53 = .ok (.iload_n 3, 1) := by decide +kernel
theorem dX2_dispute_54 : decode cX2_dispute 54 = .ok (.ireturn, 1) := by decide +kernel
set_option maxRecDepth 20000 in
theorem ggX2_payBack_X2_isHome : GoodIn wsX2_payBack wsX2_isHome := goodIn_r _ [9, 10, 11, 12, 8, 13, 18, 19, 20, 21, 22, 23, 24, 25, 26, 27, 28, 29, 30, 31, 32, 33] (by decide +kernel) (by decide +kernel)
set_option maxRecDepth 20000 in
theorem gX2_payBack_X2_isHome : GoodIn wsX2_payBack (wsV RX2 52 RX2 yX2_isHome wsX2_isHome) := goodIn_app (goodIn_of _ (by decide +kernel)) ggX2_payBack_X2_isHome
set_option maxRecDepth 20000 in
theorem ggX2_payBack_X2_fails : GoodIn wsX2_payBack wsX2_fails := goodIn_r _ [17, 1, 18, 19, 20, 21, 22, 23, 24, 25, 26, 27, 28, 29, 30, 31, 32, 33] (by decide +kernel) (by decide +kernel)
set_option maxRecDepth 20000 in
theorem gX2_payBack_X2_fails : GoodIn wsX2_payBack (wsV RX2 100 RX2 yX2_fails wsX2_fails) := goodIn_app (goodIn_of _ (by decide +kernel)) ggX2_payBack_X2_fails
set_option maxRecDepth 20000 in
theorem ggX2_payBack_X2_in : GoodIn wsX2_payBack wsX2_in := goodIn_r _ [13] (by decide +kernel) (by decide +kernel)
set_option maxRecDepth 20000 in
theorem gX2_payBack_X2_in : GoodIn wsX2_payBack (va_wsS RX2 48 yX2_in wsX2_in) := goodIn_app (goodIn_of _ (by decide +kernel)) ggX2_payBack_X2_in
theorem dX2_payBack_0 : decode cX2_payBack 0 = .ok (.aload_n 0, 1) := by decide +kernel
theorem dX2_payBack_1 : decode cX2_payBack 1 = .ok (.iconst 0, 1) := by decide +kernel
theorem dX2_payBack_2 : decode cX2_payBack 2 = .ok (.putfield 41, 3) := by decide +kernel
theorem dX2_payBack_5 : decode cX2_payBack 5 = .ok (.aload_n 0, 1) := by decide +kernel
theorem dX2_payBack_6 : decode cX2_payBack 6 = .ok (.iload_n 1, 1) := by decide +kernel
theorem dX2_payBack_7 : decode cX2_payBack 7 = .ok (.invokevirtual 52, 3) := by decide +kernel
theorem dX2_payBack_10 : decode cX2_payBack 10 = .ok (.ifCond .ne 9, 3) := by decide +kernel
theorem dX2_payBack_13 : decode cX2_payBack 13 = .ok (.aload_n 0, 1) := by decide +kernel
theorem dX2_payBack_14 : decode cX2_payBack 14 = .ok (.iconst 1, 1) := by decide +kernel
theorem dX2_payBack_15 : decode cX2_payBack 15 = .ok (.invokevirtual 100, 3) := by decide +kernel
theorem dX2_payBack_18 : decode cX2_payBack 18 = .ok (.ireturn, 1) := by decide +kernel
theorem dX2_payBack_19 : decode cX2_payBack 19 = .ok (.iload_n 2, 1) := by decide +kernel
theorem dX2_payBack_20 : decode cX2_payBack 20 = .ok (.iconst 1, 1) := by decide +kernel
theorem dX2_payBack_21 : decode cX2_payBack 21 = .ok (.ldc 57, 2) := by decide +kernel
theorem dX2_payBack_23 : decode cX2_payBack 23 = .ok (.invokestatic 48, 3) := by decide +kernel
theorem dX2_payBack_26 : decode cX2_payBack 26 = .ok (.ifCond .ne 9, 3) := by decide +kernel
theorem dX2_payBack_29 : decode cX2_payBack 29 = .ok (.aload_n 0, 1) := by decide +kernel
theorem dX2_payBack_30 : decode cX2_payBack 30 = .ok (.iconst 2, 1) := by decide +kernel
theorem dX2_payBack_31 : decode cX2_payBack 31 = .ok (.invokevirtual 100, 3) := by decide +kernel
theorem dX2_payBack_34 : decode cX2_payBack 34 = .ok (.ireturn, 1) := by decide +kernel
theorem dX2_payBack_35 : decode cX2_payBack 35 = .ok (.aload_n 0, 1) := by decide +kernel
theorem dX2_payBack_36 : decode cX2_payBack 36 = .ok (.getfield 31, 3) := by decide +kernel
theorem dX2_payBack_39 : decode cX2_payBack 39 = .ok (.iload_n 1, 1) := by decide +kernel
theorem dX2_payBack_40 : decode cX2_payBack 40 = .ok (.iaload, 1) := by decide +kernel
theorem dX2_payBack_41 : decode cX2_payBack 41 = .ok (.iload_n 2, 1) := by decide +kernel
theorem dX2_payBack_42 : decode cX2_payBack 42 = .ok (.if_icmp .ge 9, 3) := by decide +kernel
theorem dX2_payBack_45 : decode cX2_payBack 45 = .ok (.aload_n 0, 1) := by decide +kernel
theorem dX2_payBack_46 : decode cX2_payBack 46 = .ok (.iconst 3, 1) := by decide +kernel
theorem dX2_payBack_47 : decode cX2_payBack 47 = .ok (.invokevirtual 100, 3) := by decide +kernel
theorem dX2_payBack_50 : decode cX2_payBack 50 = .ok (.ireturn, 1) := by decide +kernel
theorem dX2_payBack_51 : decode cX2_payBack 51 = .ok (.aload_n 0, 1) := by decide +kernel
theorem dX2_payBack_52 : decode cX2_payBack 52 = .ok (.getfield 31, 3) := by decide +kernel
theorem dX2_payBack_55 : decode cX2_payBack 55 = .ok (.iload_n 1, 1) := by decide +kernel
theorem dX2_payBack_56 : decode cX2_payBack 56 = .ok (.dup2, 1) := by decide +kernel
theorem dX2_payBack_57 : decode cX2_payBack 57 = .ok (.iaload, 1) := by decide +kernel
theorem dX2_payBack_58 : decode cX2_payBack 58 = .ok (.iload_n 2, 1) := by decide +kernel
theorem dX2_payBack_59 : decode cX2_payBack 59 = .ok (.isub, 1) := by decide +kernel
theorem dX2_payBack_60 : decode cX2_payBack 60 = .ok (.iastore, 1) := by decide +kernel
theorem dX2_payBack_61 : decode cX2_payBack 61 = .ok (.aload_n 0, 1) := by decide +kernel
theorem dX2_payBack_62 : decode cX2_payBack 62 = .ok (.getfield 34, 3) := by decide +kernel
theorem dX2_payBack_65 : decode cX2_payBack 65 = .ok (.iload_n 1, 1) := by decide +kernel
theorem dX2_payBack_66 : decode cX2_payBack 66 = .ok (.dup2, 1) := by decide +kernel
theorem dX2_payBack_67 : decode cX2_payBack 67 = .ok (.iaload, 1) := by decide +kernel
theorem dX2_payBack_68 : decode cX2_payBack 68 = .ok (.iload_n 2, 1) := by decide +kernel
theorem dX2_payBack_69 : decode cX2_payBack 69 = .ok (.iadd, 1) := by decide +kernel
theorem dX2_payBack_70 : decode cX2_payBack 70 = .ok (.iastore, 1) := by decide +kernel
theorem dX2_payBack_71 : decode cX2_payBack 71 = .ok (.aload_n 0, 1) := by decide +kernel
theorem dX2_payBack_72 : decode cX2_payBack 72 = .ok (.getfield 31, 3) := by decide +kernel
theorem dX2_payBack_75 : decode cX2_payBack 75 = .ok (.iload_n 1, 1) := by decide +kernel
theorem dX2_payBack_76 : decode cX2_payBack 76 = .ok (.iaload, 1) := by decide +kernel
theorem dX2_payBack_77 : decode cX2_payBack 77 = .ok (.ireturn, 1) := by decide +kernel
theorem dX2_households_0 : decode cX2_households 0 = .ok (.aload_n 0, 1) := by decide +kernel
theorem dX2_households_1 : decode cX2_households 1 = .ok (.iconst 0, 1) := by decide +kernel
theorem dX2_households_2 : decode cX2_households 2 = .ok (.putfield 41, 3) := by decide +kernel
theorem dX2_households_5 : decode cX2_households 5 = .ok (.aload_n 0, 1) := by decide +kernel
theorem dX2_households_6 : decode cX2_households 6 = .ok (.getfield 45, 3) := by decide +kernel
theorem dX2_households_9 : decode cX2_households 9 = .ok (.ireturn, 1) := by decide +kernel
set_option maxRecDepth 20000 in
theorem ggX2_close_X2_fails : GoodIn wsX2_close wsX2_fails := goodIn_r _ [16, 1, 59, 60, 61, 62, 63, 64, 65, 66, 67, 68, 69, 70, 71, 72, 73, 74] (by decide +kernel) (by decide +kernel)
set_option maxRecDepth 20000 in
theorem gX2_close_X2_fails : GoodIn wsX2_close (wsV RX2 100 RX2 yX2_fails wsX2_fails) := goodIn_app (goodIn_of _ (by decide +kernel)) ggX2_close_X2_fails
set_option maxRecDepth 20000 in
theorem ggX2_close_X2_reckons : GoodIn wsX2_close wsX2_reckons := goodIn_r _ [20, 4, 2, 5, 21, 6, 9, 22, 23, 24, 15, 25, 10, 11, 26, 27, 28, 29, 30, 31, 32, 33, 34, 35, 36, 37, 38, 39, 40, 41, 42, 43, 44, 45, 46, 47, 48, 49, 50, 51, 52, 53, 54, 55, 56, 57, 58, 59, 60, 61, 62, 63, 64, 65, 66, 67, 68, 69, 70, 71, 72, 73, 74] (by decide +kernel) (by decide +kernel)
set_option maxRecDepth 20000 in
theorem gX2_close_X2_reckons : GoodIn wsX2_close (wsV RX2 106 RX2 yX2_reckons wsX2_reckons) := goodIn_app (goodIn_of _ (by decide +kernel)) ggX2_close_X2_reckons
set_option maxRecDepth 20000 in
theorem ggX2_close_X2_dueOf : GoodIn wsX2_close wsX2_dueOf := goodIn_r _ [29, 30, 31, 32, 33, 15, 34, 35, 36, 37, 38, 39, 40, 41, 42, 43, 44, 45, 46, 47, 48, 49, 50, 51, 52, 53, 54, 55, 59, 60, 61, 62, 63, 64, 65, 66, 67, 68, 69, 70, 71, 72, 73, 74] (by decide +kernel) (by decide +kernel)
set_option maxRecDepth 20000 in
theorem gX2_close_X2_dueOf : GoodIn wsX2_close (wsV RX2 82 RX2 yX2_dueOf wsX2_dueOf) := goodIn_app (goodIn_of _ (by decide +kernel)) ggX2_close_X2_dueOf
theorem dX2_close_0 : decode cX2_close 0 = .ok (.aload_n 0, 1) := by decide +kernel
theorem dX2_close_1 : decode cX2_close 1 = .ok (.iconst 0, 1) := by decide +kernel
theorem dX2_close_2 : decode cX2_close 2 = .ok (.putfield 41, 3) := by decide +kernel
theorem dX2_close_5 : decode cX2_close 5 = .ok (.aload_n 0, 1) := by decide +kernel
theorem dX2_close_6 : decode cX2_close 6 = .ok (.getfield 79, 3) := by decide +kernel
theorem dX2_close_9 : decode cX2_close 9 = .ok (.bipush 48, 2) := by decide +kernel
theorem dX2_close_11 : decode cX2_close 11 = .ok (.if_icmp .ne 9, 3) := by decide +kernel
theorem dX2_close_14 : decode cX2_close 14 = .ok (.aload_n 0, 1) := by decide +kernel
theorem dX2_close_15 : decode cX2_close 15 = .ok (.iconst 1, 1) := by decide +kernel
theorem dX2_close_16 : decode cX2_close 16 = .ok (.invokevirtual 100, 3) := by decide +kernel
theorem dX2_close_19 : decode cX2_close 19 = .ok (.ireturn, 1) := by decide +kernel
theorem dX2_close_20 : decode cX2_close 20 = .ok (.iconst 0, 1) := by decide +kernel
theorem dX2_close_21 : decode cX2_close 21 = .ok (.istore_n 1, 1) := by decide +kernel
theorem dX2_close_22 : decode cX2_close 22 = .ok (.iconst 0, 1) := by decide +kernel
theorem dX2_close_23 : decode cX2_close 23 = .ok (.istore_n 2, 1) := by decide +kernel
theorem dX2_close_24 : decode cX2_close 24 = .ok (.iload_n 2, 1) := by decide +kernel
theorem dX2_close_25 : decode cX2_close 25 = .ok (.aload_n 0, 1) := by decide +kernel
theorem dX2_close_26 : decode cX2_close 26 = .ok (.getfield 45, 3) := by decide +kernel
theorem dX2_close_29 : decode cX2_close 29 = .ok (.if_icmp .ge 105, 3) := by decide +kernel
theorem dX2_close_32 : decode cX2_close 32 = .ok (.aload_n 0, 1) := by decide +kernel
theorem dX2_close_33 : decode cX2_close 33 = .ok (.iload_n 2, 1) := by decide +kernel
theorem dX2_close_34 : decode cX2_close 34 = .ok (.invokevirtual 106, 3) := by decide +kernel
theorem dX2_close_37 : decode cX2_close 37 = .ok (.aload_n 0, 1) := by decide +kernel
theorem dX2_close_38 : decode cX2_close 38 = .ok (.getfield 31, 3) := by decide +kernel
theorem dX2_close_41 : decode cX2_close 41 = .ok (.iload_n 2, 1) := by decide +kernel
theorem dX2_close_42 : decode cX2_close 42 = .ok (.aload_n 0, 1) := by decide +kernel
theorem dX2_close_43 : decode cX2_close 43 = .ok (.getfield 91, 3) := by decide +kernel
theorem dX2_close_46 : decode cX2_close 46 = .ok (.aload_n 0, 1) := by decide +kernel
theorem dX2_close_47 : decode cX2_close 47 = .ok (.getfield 94, 3) := by decide +kernel
theorem dX2_close_50 : decode cX2_close 50 = .ok (.isub, 1) := by decide +kernel
theorem dX2_close_51 : decode cX2_close 51 = .ok (.iastore, 1) := by decide +kernel
theorem dX2_close_52 : decode cX2_close 52 = .ok (.aload_n 0, 1) := by decide +kernel
theorem dX2_close_53 : decode cX2_close 53 = .ok (.getfield 34, 3) := by decide +kernel
theorem dX2_close_56 : decode cX2_close 56 = .ok (.iload_n 2, 1) := by decide +kernel
theorem dX2_close_57 : decode cX2_close 57 = .ok (.dup2, 1) := by decide +kernel
theorem dX2_close_58 : decode cX2_close 58 = .ok (.iaload, 1) := by decide +kernel
theorem dX2_close_59 : decode cX2_close 59 = .ok (.aload_n 0, 1) := by decide +kernel
theorem dX2_close_60 : decode cX2_close 60 = .ok (.getfield 94, 3) := by decide +kernel
theorem dX2_close_63 : decode cX2_close 63 = .ok (.iadd, 1) := by decide +kernel
theorem dX2_close_64 : decode cX2_close 64 = .ok (.iastore, 1) := by decide +kernel
theorem dX2_close_65 : decode cX2_close 65 = .ok (.aload_n 0, 1) := by decide +kernel
theorem dX2_close_66 : decode cX2_close 66 = .ok (.getfield 28, 3) := by decide +kernel
theorem dX2_close_69 : decode cX2_close 69 = .ok (.bipush 48, 2) := by decide +kernel
theorem dX2_close_71 : decode cX2_close 71 = .ok (.iload_n 2, 1) := by decide +kernel
theorem dX2_close_72 : decode cX2_close 72 = .ok (.imul, 1) := by decide +kernel
theorem dX2_close_73 : decode cX2_close 73 = .ok (.aload_n 0, 1) := by decide +kernel
theorem dX2_close_74 : decode cX2_close 74 = .ok (.getfield 79, 3) := by decide +kernel
theorem dX2_close_77 : decode cX2_close 77 = .ok (.iadd, 1) := by decide +kernel
theorem dX2_close_78 : decode cX2_close 78 = .ok (.aload_n 0, 1) := by decide +kernel
theorem dX2_close_79 : decode cX2_close 79 = .ok (.getfield 97, 3) := by decide +kernel
theorem dX2_close_82 : decode cX2_close 82 = .ok (.iastore, 1) := by decide +kernel
theorem dX2_close_83 : decode cX2_close 83 = .ok (.iload_n 1, 1) := by decide +kernel
theorem dX2_close_84 : decode cX2_close 84 = .ok (.aload_n 0, 1) := by decide +kernel
theorem dX2_close_85 : decode cX2_close 85 = .ok (.getfield 97, 3) := by decide +kernel
theorem dX2_close_88 : decode cX2_close 88 = .ok (.iadd, 1) := by decide +kernel
theorem dX2_close_89 : decode cX2_close 89 = .ok (.istore_n 1, 1) := by decide +kernel
theorem dX2_close_90 : decode cX2_close 90 = .ok (.aload_n 0, 1) := by decide +kernel
theorem dX2_close_91 : decode cX2_close 91 = .ok (.getfield 7, 3) := by decide +kernel
theorem dX2_close_94 : decode cX2_close 94 = .ok (.iload_n 2, 1) := by decide +kernel
theorem dX2_close_95 : decode cX2_close 95 = .ok (.iaload, 1) := by decide +kernel
theorem dX2_close_96 : decode cX2_close 96 = .ok (.istore_n 3, 1) := by decide +kernel
theorem dX2_close_97 : decode cX2_close 97 = .ok (.iload_n 3, 1) := by decide +kernel
theorem dX2_close_98 : decode cX2_close 98 = .ok (.aload_n 0, 1) := by decide +kernel
theorem dX2_close_99 : decode cX2_close 99 = .ok (.getfield 79, 3) := by decide +kernel
theorem dX2_close_102 : decode cX2_close 102 = .ok (.if_icmp .gt 26, 3) := by decide +kernel
theorem dX2_close_105 : decode cX2_close 105 = .ok (.aload_n 0, 1) := by decide +kernel
theorem dX2_close_106 : decode cX2_close 106 = .ok (.getfield 25, 3) := by decide +kernel
theorem dX2_close_109 : decode cX2_close 109 = .ok (.bipush 48, 2) := by decide +kernel
theorem dX2_close_111 : decode cX2_close 111 = .ok (.iload_n 2, 1) := by decide +kernel
theorem dX2_close_112 : decode cX2_close 112 = .ok (.imul, 1) := by decide +kernel
theorem dX2_close_113 : decode cX2_close 113 = .ok (.iload_n 3, 1) := by decide +kernel
theorem dX2_close_114 : decode cX2_close 114 = .ok (.iadd, 1) := by decide +kernel
theorem dX2_close_115 : decode cX2_close 115 = .ok (.aload_n 0, 1) := by decide +kernel
theorem dX2_close_116 : decode cX2_close 116 = .ok (.iload_n 2, 1) := by decide +kernel
theorem dX2_close_117 : decode cX2_close 117 = .ok (.iload_n 3, 1) := by decide +kernel
theorem dX2_close_118 : decode cX2_close 118 = .ok (.invokevirtual 82, 3) := by decide +kernel
theorem dX2_close_121 : decode cX2_close 121 = .ok (.iastore, 1) := by decide +kernel
theorem dX2_close_122 : decode cX2_close 122 = .ok (.iinc 3 1, 3) := by decide +kernel
theorem dX2_close_125 : decode cX2_close 125 = .ok (.goto (-28), 3) := by decide +kernel
theorem dX2_close_128 : decode cX2_close 128 = .ok (.iinc 2 1, 3) := by decide +kernel
theorem dX2_close_131 : decode cX2_close 131 = .ok (.goto (-107), 3) := by decide +kernel
theorem dX2_close_134 : decode cX2_close 134 = .ok (.aload_n 0, 1) := by decide +kernel
theorem dX2_close_135 : decode cX2_close 135 = .ok (.dup, 1) := by decide +kernel
theorem dX2_close_136 : decode cX2_close 136 = .ok (.getfield 79, 3) := by decide +kernel
theorem dX2_close_139 : decode cX2_close 139 = .ok (.iconst 1, 1) := by decide +kernel
theorem dX2_close_140 : decode cX2_close 140 = .ok (.iadd, 1) := by decide +kernel
theorem dX2_close_141 : decode cX2_close 141 = .ok (.putfield 79, 3) := by decide +kernel
theorem dX2_close_144 : decode cX2_close 144 = .ok (.iload_n 1, 1) := by decide +kernel
theorem dX2_close_145 : decode cX2_close 145 = .ok (.ireturn, 1) := by decide +kernel
theorem dX2_month_0 : decode cX2_month 0 = .ok (.aload_n 0, 1) := by decide +kernel
theorem dX2_month_1 : decode cX2_month 1 = .ok (.iconst 0, 1) := by decide +kernel
theorem dX2_month_2 : decode cX2_month 2 = .ok (.putfield 41, 3) := by decide +kernel
theorem dX2_month_5 : decode cX2_month 5 = .ok (.aload_n 0, 1) := by decide +kernel
theorem dX2_month_6 : decode cX2_month 6 = .ok (.getfield 79, 3) := by decide +kernel
theorem dX2_month_9 : decode cX2_month 9 = .ok (.bipush 48, 2) := by decide +kernel
theorem dX2_month_11 : decode cX2_month 11 = .ok (.if_icmp .ge 10, 3) := by decide +kernel
theorem dX2_month_14 : decode cX2_month 14 = .ok (.aload_n 0, 1) := by decide +kernel
theorem dX2_month_15 : decode cX2_month 15 = .ok (.getfield 79, 3) := by decide +kernel
theorem dX2_month_18 : decode cX2_month 18 = .ok (.goto 4, 3) := by decide +kernel
theorem dX2_month_21 : decode cX2_month 21 = .ok (.iconst (-1), 1) := by decide +kernel
theorem dX2_month_22 : decode cX2_month 22 = .ok (.ireturn, 1) := by decide +kernel
set_option maxRecDepth 20000 in
theorem ggX2_fact_X2_isAsked : GoodIn wsX2_fact wsX2_isAsked := goodIn_r _ [5, 6, 7, 8, 9, 4, 10, 11, 12, 13, 14, 30, 31, 32, 33, 34, 35, 36, 37, 38, 39, 40, 41, 42, 43, 44, 45] (by decide +kernel) (by decide +kernel)
set_option maxRecDepth 20000 in
theorem gX2_fact_X2_isAsked : GoodIn wsX2_fact (wsV RX2 110 RX2 yX2_isAsked wsX2_isAsked) := goodIn_app (goodIn_of _ (by decide +kernel)) ggX2_fact_X2_isAsked
set_option maxRecDepth 20000 in
theorem ggX2_fact_X2_in : GoodIn wsX2_fact wsX2_in := goodIn_r _ [14] (by decide +kernel) (by decide +kernel)
set_option maxRecDepth 20000 in
theorem gX2_fact_X2_in : GoodIn wsX2_fact (va_wsS RX2 48 yX2_in wsX2_in) := goodIn_app (goodIn_of _ (by decide +kernel)) ggX2_fact_X2_in
set_option maxRecDepth 20000 in
theorem ggX2_fact_X2_factOf : GoodIn wsX2_fact wsX2_factOf := goodIn_r _ [18, 19, 20, 21, 22, 23, 24, 4, 25, 30, 31, 32, 33, 34, 35, 36, 37, 38, 39, 40, 41, 42, 43, 44, 45] (by decide +kernel) (by decide +kernel)
set_option maxRecDepth 20000 in
theorem gX2_fact_X2_factOf : GoodIn wsX2_fact (wsV RX2 62 RX2 yX2_factOf wsX2_factOf) := goodIn_app (goodIn_of _ (by decide +kernel)) ggX2_fact_X2_factOf
set_option maxRecDepth 20000 in
theorem ggX2_fact_X2_fails : GoodIn wsX2_fact wsX2_fails := goodIn_r _ [29, 6, 30, 31, 32, 33, 34, 35, 36, 37, 38, 39, 40, 41, 42, 43, 44, 45] (by decide +kernel) (by decide +kernel)
set_option maxRecDepth 20000 in
theorem gX2_fact_X2_fails : GoodIn wsX2_fact (wsV RX2 100 RX2 yX2_fails wsX2_fails) := goodIn_app (goodIn_of _ (by decide +kernel)) ggX2_fact_X2_fails
theorem dX2_fact_0 : decode cX2_fact 0 = .ok (.aload_n 0, 1) := by decide +kernel
theorem dX2_fact_1 : decode cX2_fact 1 = .ok (.iload_n 1, 1) := by decide +kernel
theorem dX2_fact_2 : decode cX2_fact 2 = .ok (.iload_n 3, 1) := by decide +kernel
theorem dX2_fact_3 : decode cX2_fact 3 = .ok (.invokevirtual 110, 3) := by decide +kernel
theorem dX2_fact_6 : decode cX2_fact 6 = .ok (.ifCond .ne 5, 3) := by decide +kernel
theorem dX2_fact_9 : decode cX2_fact 9 = .ok (.iconst 0, 1) := by decide +kernel
theorem dX2_fact_10 : decode cX2_fact 10 = .ok (.ireturn, 1) := by decide +kernel
theorem dX2_fact_11 : decode cX2_fact 11 = .ok (.iload_n 2, 1) := by decide +kernel
theorem dX2_fact_12 : decode cX2_fact 12 = .ok (.iconst 0, 1) := by decide +kernel
theorem dX2_fact_13 : decode cX2_fact 13 = .ok (.iconst 4, 1) := by decide +kernel
theorem dX2_fact_14 : decode cX2_fact 14 = .ok (.invokestatic 48, 3) := by decide +kernel
theorem dX2_fact_17 : decode cX2_fact 17 = .ok (.ifCond .eq 13, 3) := by decide +kernel
theorem dX2_fact_20 : decode cX2_fact 20 = .ok (.aload_n 0, 1) := by decide +kernel
theorem dX2_fact_21 : decode cX2_fact 21 = .ok (.iload_n 1, 1) := by decide +kernel
theorem dX2_fact_22 : decode cX2_fact 22 = .ok (.iload_n 2, 1) := by decide +kernel
theorem dX2_fact_23 : decode cX2_fact 23 = .ok (.iload_n 3, 1) := by decide +kernel
theorem dX2_fact_24 : decode cX2_fact 24 = .ok (.invokevirtual 62, 3) := by decide +kernel
theorem dX2_fact_27 : decode cX2_fact 27 = .ok (.goto 8, 3) := by decide +kernel
theorem dX2_fact_30 : decode cX2_fact 30 = .ok (.aload_n 0, 1) := by decide +kernel
theorem dX2_fact_31 : decode cX2_fact 31 = .ok (.iconst 2, 1) := by decide +kernel
theorem dX2_fact_32 : decode cX2_fact 32 = .ok (.invokevirtual 100, 3) := by decide +kernel
theorem dX2_fact_35 : decode cX2_fact 35 = .ok (.ireturn, 1) := by decide +kernel
set_option maxRecDepth 20000 in
theorem ggX2_need_X2_isAsked : GoodIn wsX2_need wsX2_isAsked := goodIn_r _ [5, 6, 7, 8, 9, 4, 10, 11, 12, 13, 14, 31, 32, 33, 34, 35, 36, 37, 38, 39, 40, 41, 42, 43, 44, 45, 46] (by decide +kernel) (by decide +kernel)
set_option maxRecDepth 20000 in
theorem gX2_need_X2_isAsked : GoodIn wsX2_need (wsV RX2 110 RX2 yX2_isAsked wsX2_isAsked) := goodIn_app (goodIn_of _ (by decide +kernel)) ggX2_need_X2_isAsked
set_option maxRecDepth 20000 in
theorem ggX2_need_X2_needOf : GoodIn wsX2_need wsX2_needOf := goodIn_r _ [18, 19, 20, 21, 22, 4, 23, 24, 25, 26, 27, 28, 29, 30, 31, 32, 33, 34, 35, 36, 37, 38, 39, 40, 41, 42, 43, 44, 45, 46] (by decide +kernel) (by decide +kernel)
set_option maxRecDepth 20000 in
theorem gX2_need_X2_needOf : GoodIn wsX2_need (wsV RX2 68 RX2 yX2_needOf wsX2_needOf) := goodIn_app (goodIn_of _ (by decide +kernel)) ggX2_need_X2_needOf
theorem dX2_need_0 : decode cX2_need 0 = .ok (.aload_n 0, 1) := by decide +kernel
theorem dX2_need_1 : decode cX2_need 1 = .ok (.iload_n 1, 1) := by decide +kernel
theorem dX2_need_2 : decode cX2_need 2 = .ok (.iload_n 2, 1) := by decide +kernel
theorem dX2_need_3 : decode cX2_need 3 = .ok (.invokevirtual 110, 3) := by decide +kernel
theorem dX2_need_6 : decode cX2_need 6 = .ok (.ifCond .eq 12, 3) := by decide +kernel
theorem dX2_need_9 : decode cX2_need 9 = .ok (.aload_n 0, 1) := by decide +kernel
theorem dX2_need_10 : decode cX2_need 10 = .ok (.iload_n 1, 1) := by decide +kernel
theorem dX2_need_11 : decode cX2_need 11 = .ok (.iload_n 2, 1) := by decide +kernel
theorem dX2_need_12 : decode cX2_need 12 = .ok (.invokevirtual 68, 3) := by decide +kernel
theorem dX2_need_15 : decode cX2_need 15 = .ok (.goto 4, 3) := by decide +kernel
theorem dX2_need_18 : decode cX2_need 18 = .ok (.iconst 0, 1) := by decide +kernel
theorem dX2_need_19 : decode cX2_need 19 = .ok (.ireturn, 1) := by decide +kernel
set_option maxRecDepth 20000 in
theorem ggX2_taper_X2_isAsked : GoodIn wsX2_taper wsX2_isAsked := goodIn_r _ [5, 6, 7, 8, 9, 4, 10, 11, 12, 13, 14, 30, 31, 32, 33, 34, 35, 36, 37, 38, 39, 40, 41, 42, 43, 44, 45] (by decide +kernel) (by decide +kernel)
set_option maxRecDepth 20000 in
theorem gX2_taper_X2_isAsked : GoodIn wsX2_taper (wsV RX2 110 RX2 yX2_isAsked wsX2_isAsked) := goodIn_app (goodIn_of _ (by decide +kernel)) ggX2_taper_X2_isAsked
set_option maxRecDepth 20000 in
theorem ggX2_taper_X2_taperOf : GoodIn wsX2_taper wsX2_taperOf := goodIn_r _ [18, 19, 20, 21, 4, 22, 23, 24, 25, 26, 27, 28, 29, 30, 31, 32, 33, 34, 35, 36, 37, 38, 39, 40, 41, 42, 43, 44, 45] (by decide +kernel) (by decide +kernel)
set_option maxRecDepth 20000 in
theorem gX2_taper_X2_taperOf : GoodIn wsX2_taper (wsV RX2 72 RX2 yX2_taperOf wsX2_taperOf) := goodIn_app (goodIn_of _ (by decide +kernel)) ggX2_taper_X2_taperOf
theorem dX2_taper_0 : decode cX2_taper 0 = .ok (.aload_n 0, 1) := by decide +kernel
theorem dX2_taper_1 : decode cX2_taper 1 = .ok (.iload_n 1, 1) := by decide +kernel
theorem dX2_taper_2 : decode cX2_taper 2 = .ok (.iload_n 2, 1) := by decide +kernel
theorem dX2_taper_3 : decode cX2_taper 3 = .ok (.invokevirtual 110, 3) := by decide +kernel
theorem dX2_taper_6 : decode cX2_taper 6 = .ok (.ifCond .eq 12, 3) := by decide +kernel
theorem dX2_taper_9 : decode cX2_taper 9 = .ok (.aload_n 0, 1) := by decide +kernel
theorem dX2_taper_10 : decode cX2_taper 10 = .ok (.iload_n 1, 1) := by decide +kernel
theorem dX2_taper_11 : decode cX2_taper 11 = .ok (.iload_n 2, 1) := by decide +kernel
theorem dX2_taper_12 : decode cX2_taper 12 = .ok (.invokevirtual 72, 3) := by decide +kernel
theorem dX2_taper_15 : decode cX2_taper 15 = .ok (.goto 4, 3) := by decide +kernel
theorem dX2_taper_18 : decode cX2_taper 18 = .ok (.iconst 0, 1) := by decide +kernel
theorem dX2_taper_19 : decode cX2_taper 19 = .ok (.ireturn, 1) := by decide +kernel
set_option maxRecDepth 20000 in
theorem ggX2_tariff_X2_isAsked : GoodIn wsX2_tariff wsX2_isAsked := goodIn_r _ [5, 6, 7, 8, 9, 4, 10, 11, 12, 13, 14, 31, 32, 33, 34, 35, 36, 37, 38, 39, 40, 41, 42, 43, 44, 45, 46] (by decide +kernel) (by decide +kernel)
set_option maxRecDepth 20000 in
theorem gX2_tariff_X2_isAsked : GoodIn wsX2_tariff (wsV RX2 110 RX2 yX2_isAsked wsX2_isAsked) := goodIn_app (goodIn_of _ (by decide +kernel)) ggX2_tariff_X2_isAsked
set_option maxRecDepth 20000 in
theorem ggX2_tariff_X2_tariffOf : GoodIn wsX2_tariff wsX2_tariffOf := goodIn_r _ [18, 19, 20, 21, 22, 4, 23, 24, 25, 26, 27, 28, 29, 30, 31, 32, 33, 34, 35, 36, 37, 38, 39, 40, 41, 42, 43, 44, 45, 46] (by decide +kernel) (by decide +kernel)
set_option maxRecDepth 20000 in
theorem gX2_tariff_X2_tariffOf : GoodIn wsX2_tariff (wsV RX2 75 RX2 yX2_tariffOf wsX2_tariffOf) := goodIn_app (goodIn_of _ (by decide +kernel)) ggX2_tariff_X2_tariffOf
theorem dX2_tariff_0 : decode cX2_tariff 0 = .ok (.aload_n 0, 1) := by decide +kernel
theorem dX2_tariff_1 : decode cX2_tariff 1 = .ok (.iload_n 1, 1) := by decide +kernel
theorem dX2_tariff_2 : decode cX2_tariff 2 = .ok (.iload_n 2, 1) := by decide +kernel
theorem dX2_tariff_3 : decode cX2_tariff 3 = .ok (.invokevirtual 110, 3) := by decide +kernel
theorem dX2_tariff_6 : decode cX2_tariff 6 = .ok (.ifCond .eq 12, 3) := by decide +kernel
theorem dX2_tariff_9 : decode cX2_tariff 9 = .ok (.aload_n 0, 1) := by decide +kernel
theorem dX2_tariff_10 : decode cX2_tariff 10 = .ok (.iload_n 1, 1) := by decide +kernel
theorem dX2_tariff_11 : decode cX2_tariff 11 = .ok (.iload_n 2, 1) := by decide +kernel
theorem dX2_tariff_12 : decode cX2_tariff 12 = .ok (.invokevirtual 75, 3) := by decide +kernel
theorem dX2_tariff_15 : decode cX2_tariff 15 = .ok (.goto 4, 3) := by decide +kernel
theorem dX2_tariff_18 : decode cX2_tariff 18 = .ok (.iconst 0, 1) := by decide +kernel
theorem dX2_tariff_19 : decode cX2_tariff 19 = .ok (.ireturn, 1) := by decide +kernel
set_option maxRecDepth 20000 in
theorem ggX2_due_X2_isAsked : GoodIn wsX2_due wsX2_isAsked := goodIn_r _ [5, 6, 7, 8, 9, 4, 10, 11, 12, 13, 14, 45, 46, 47, 48, 49, 50, 51, 52, 53, 54, 55, 56, 57, 58, 59, 60] (by decide +kernel) (by decide +kernel)
set_option maxRecDepth 20000 in
theorem gX2_due_X2_isAsked : GoodIn wsX2_due (wsV RX2 110 RX2 yX2_isAsked wsX2_isAsked) := goodIn_app (goodIn_of _ (by decide +kernel)) ggX2_due_X2_isAsked
set_option maxRecDepth 20000 in
theorem ggX2_due_X2_dueOf : GoodIn wsX2_due wsX2_dueOf := goodIn_r _ [18, 19, 20, 21, 22, 4, 23, 24, 25, 26, 27, 28, 29, 30, 31, 32, 33, 34, 35, 36, 37, 38, 39, 40, 41, 42, 43, 44, 45, 46, 47, 48, 49, 50, 51, 52, 53, 54, 55, 56, 57, 58, 59, 60] (by decide +kernel) (by decide +kernel)
set_option maxRecDepth 20000 in
theorem gX2_due_X2_dueOf : GoodIn wsX2_due (wsV RX2 82 RX2 yX2_dueOf wsX2_dueOf) := goodIn_app (goodIn_of _ (by decide +kernel)) ggX2_due_X2_dueOf
theorem dX2_due_0 : decode cX2_due 0 = .ok (.aload_n 0, 1) := by decide +kernel
theorem dX2_due_1 : decode cX2_due 1 = .ok (.iload_n 1, 1) := by decide +kernel
theorem dX2_due_2 : decode cX2_due 2 = .ok (.iload_n 2, 1) := by decide +kernel
theorem dX2_due_3 : decode cX2_due 3 = .ok (.invokevirtual 110, 3) := by decide +kernel
theorem dX2_due_6 : decode cX2_due 6 = .ok (.ifCond .eq 12, 3) := by decide +kernel
theorem dX2_due_9 : decode cX2_due 9 = .ok (.aload_n 0, 1) := by decide +kernel
theorem dX2_due_10 : decode cX2_due 10 = .ok (.iload_n 1, 1) := by decide +kernel
theorem dX2_due_11 : decode cX2_due 11 = .ok (.iload_n 2, 1) := by decide +kernel
theorem dX2_due_12 : decode cX2_due 12 = .ok (.invokevirtual 82, 3) := by decide +kernel
theorem dX2_due_15 : decode cX2_due 15 = .ok (.goto 4, 3) := by decide +kernel
theorem dX2_due_18 : decode cX2_due 18 = .ok (.iconst 0, 1) := by decide +kernel
theorem dX2_due_19 : decode cX2_due 19 = .ok (.ireturn, 1) := by decide +kernel
set_option maxRecDepth 20000 in
theorem ggX2_unassessed_X2_isHome : GoodIn wsX2_unassessed wsX2_isHome := goodIn_r _ [6, 7, 8, 9, 5, 10, 52, 53, 54, 55, 56, 57, 58, 59, 60, 61, 62, 63, 64, 65, 66, 67] (by decide +kernel) (by decide +kernel)
set_option maxRecDepth 20000 in
theorem gX2_unassessed_X2_isHome : GoodIn wsX2_unassessed (wsV RX2 52 RX2 yX2_isHome wsX2_isHome) := goodIn_app (goodIn_of _ (by decide +kernel)) ggX2_unassessed_X2_isHome
set_option maxRecDepth 20000 in
theorem ggX2_unassessed_X2_openOf : GoodIn wsX2_unassessed wsX2_openOf := goodIn_r _ [14, 15, 16, 17, 18, 19, 20, 5, 21, 22, 23, 24, 25, 26, 27, 28, 29, 30, 31, 32, 33, 34, 35, 36, 37, 38, 39, 40, 41, 42, 43, 44, 45, 46, 47, 52, 53, 54, 55, 56, 57, 58, 59, 60, 61, 62, 63, 64, 65, 66, 67] (by decide +kernel) (by decide +kernel)
set_option maxRecDepth 20000 in
theorem gX2_unassessed_X2_openOf : GoodIn wsX2_unassessed (wsV RX2 85 RX2 yX2_openOf wsX2_openOf) := goodIn_app (goodIn_of _ (by decide +kernel)) ggX2_unassessed_X2_openOf
set_option maxRecDepth 20000 in
theorem ggX2_unassessed_X2_fails : GoodIn wsX2_unassessed wsX2_fails := goodIn_r _ [51, 1, 52, 53, 54, 55, 56, 57, 58, 59, 60, 61, 62, 63, 64, 65, 66, 67] (by decide +kernel) (by decide +kernel)
set_option maxRecDepth 20000 in
theorem gX2_unassessed_X2_fails : GoodIn wsX2_unassessed (wsV RX2 100 RX2 yX2_fails wsX2_fails) := goodIn_app (goodIn_of _ (by decide +kernel)) ggX2_unassessed_X2_fails
theorem dX2_unassessed_0 : decode cX2_unassessed 0 = .ok (.aload_n 0, 1) := by decide +kernel
theorem dX2_unassessed_1 : decode cX2_unassessed 1 = .ok (.iconst 0, 1) := by decide +kernel
theorem dX2_unassessed_2 : decode cX2_unassessed 2 = .ok (.putfield 41, 3) := by decide +kernel
theorem dX2_unassessed_5 : decode cX2_unassessed 5 = .ok (.aload_n 0, 1) := by decide +kernel
theorem dX2_unassessed_6 : decode cX2_unassessed 6 = .ok (.iload_n 1, 1) := by decide +kernel
theorem dX2_unassessed_7 : decode cX2_unassessed 7 = .ok (.invokevirtual 52, 3) := by decide +kernel
theorem dX2_unassessed_10 : decode cX2_unassessed 10 = .ok (.ifCond .eq 11, 3) := by decide +kernel
theorem dX2_unassessed_13 : decode cX2_unassessed 13 = .ok (.aload_n 0, 1) := by decide +kernel
theorem dX2_unassessed_14 : decode cX2_unassessed 14 = .ok (.iload_n 1, 1) := by decide +kernel
theorem dX2_unassessed_15 : decode cX2_unassessed 15 = .ok (.invokevirtual 85, 3) := by decide +kernel
theorem dX2_unassessed_18 : decode cX2_unassessed 18 = .ok (.goto 8, 3) := by decide +kernel
theorem dX2_unassessed_21 : decode cX2_unassessed 21 = .ok (.aload_n 0, 1) := by decide +kernel
theorem dX2_unassessed_22 : decode cX2_unassessed 22 = .ok (.iconst 1, 1) := by decide +kernel
theorem dX2_unassessed_23 : decode cX2_unassessed 23 = .ok (.invokevirtual 100, 3) := by decide +kernel
theorem dX2_unassessed_26 : decode cX2_unassessed 26 = .ok (.ireturn, 1) := by decide +kernel
set_option maxRecDepth 20000 in
theorem ggX2_wouldPay_X2_isHome : GoodIn wsX2_wouldPay wsX2_isHome := goodIn_r _ [8, 9, 10, 11, 7, 12, 64, 65, 66, 67, 68, 69, 70, 71, 72, 73, 74, 75, 76, 77, 78, 79] (by decide +kernel) (by decide +kernel)
set_option maxRecDepth 20000 in
theorem gX2_wouldPay_X2_isHome : GoodIn wsX2_wouldPay (wsV RX2 52 RX2 yX2_isHome wsX2_isHome) := goodIn_app (goodIn_of _ (by decide +kernel)) ggX2_wouldPay_X2_isHome
set_option maxRecDepth 20000 in
theorem ggX2_wouldPay_X2_fails : GoodIn wsX2_wouldPay wsX2_fails := goodIn_r _ [16, 1, 64, 65, 66, 67, 68, 69, 70, 71, 72, 73, 74, 75, 76, 77, 78, 79] (by decide +kernel) (by decide +kernel)
set_option maxRecDepth 20000 in
theorem gX2_wouldPay_X2_fails : GoodIn wsX2_wouldPay (wsV RX2 100 RX2 yX2_fails wsX2_fails) := goodIn_app (goodIn_of _ (by decide +kernel)) ggX2_wouldPay_X2_fails
set_option maxRecDepth 20000 in
theorem ggX2_wouldPay_X2_reckons : GoodIn wsX2_wouldPay wsX2_reckons := goodIn_r _ [20, 21, 2, 22, 23, 24, 3, 25, 26, 27, 7, 28, 29, 30, 31, 32, 33, 34, 35, 36, 37, 38, 39, 40, 41, 42, 43, 44, 45, 46, 47, 48, 49, 50, 51, 52, 53, 54, 55, 56, 57, 58, 59, 60, 61, 62, 63, 64, 65, 66, 67, 68, 69, 70, 71, 72, 73, 74, 75, 76, 77, 78, 79] (by decide +kernel) (by decide +kernel)
set_option maxRecDepth 20000 in
theorem gX2_wouldPay_X2_reckons : GoodIn wsX2_wouldPay (wsV RX2 106 RX2 yX2_reckons wsX2_reckons) := goodIn_app (goodIn_of _ (by decide +kernel)) ggX2_wouldPay_X2_reckons
theorem dX2_wouldPay_0 : decode cX2_wouldPay 0 = .ok (.aload_n 0, 1) := by decide +kernel
theorem dX2_wouldPay_1 : decode cX2_wouldPay 1 = .ok (.iconst 0, 1) := by decide +kernel
theorem dX2_wouldPay_2 : decode cX2_wouldPay 2 = .ok (.putfield 41, 3) := by decide +kernel
theorem dX2_wouldPay_5 : decode cX2_wouldPay 5 = .ok (.aload_n 0, 1) := by decide +kernel
theorem dX2_wouldPay_6 : decode cX2_wouldPay 6 = .ok (.iload_n 1, 1) := by decide +kernel
theorem dX2_wouldPay_7 : decode cX2_wouldPay 7 = .ok (.invokevirtual 52, 3) := by decide +kernel
theorem dX2_wouldPay_10 : decode cX2_wouldPay 10 = .ok (.ifCond .ne 9, 3) := by decide +kernel
theorem dX2_wouldPay_13 : decode cX2_wouldPay 13 = .ok (.aload_n 0, 1) := by decide +kernel
theorem dX2_wouldPay_14 : decode cX2_wouldPay 14 = .ok (.iconst 1, 1) := by decide +kernel
theorem dX2_wouldPay_15 : decode cX2_wouldPay 15 = .ok (.invokevirtual 100, 3) := by decide +kernel
theorem dX2_wouldPay_18 : decode cX2_wouldPay 18 = .ok (.ireturn, 1) := by decide +kernel
theorem dX2_wouldPay_19 : decode cX2_wouldPay 19 = .ok (.aload_n 0, 1) := by decide +kernel
theorem dX2_wouldPay_20 : decode cX2_wouldPay 20 = .ok (.getfield 79, 3) := by decide +kernel
theorem dX2_wouldPay_23 : decode cX2_wouldPay 23 = .ok (.bipush 48, 2) := by decide +kernel
theorem dX2_wouldPay_25 : decode cX2_wouldPay 25 = .ok (.if_icmp .ne 5, 3) := by decide +kernel
theorem dX2_wouldPay_28 : decode cX2_wouldPay 28 = .ok (.iconst 0, 1) := by decide +kernel
theorem dX2_wouldPay_29 : decode cX2_wouldPay 29 = .ok (.ireturn, 1) := by decide +kernel
theorem dX2_wouldPay_30 : decode cX2_wouldPay 30 = .ok (.aload_n 0, 1) := by decide +kernel
theorem dX2_wouldPay_31 : decode cX2_wouldPay 31 = .ok (.iload_n 1, 1) := by decide +kernel
theorem dX2_wouldPay_32 : decode cX2_wouldPay 32 = .ok (.invokevirtual 106, 3) := by decide +kernel
theorem dX2_wouldPay_35 : decode cX2_wouldPay 35 = .ok (.aload_n 0, 1) := by decide +kernel
theorem dX2_wouldPay_36 : decode cX2_wouldPay 36 = .ok (.getfield 97, 3) := by decide +kernel
theorem dX2_wouldPay_39 : decode cX2_wouldPay 39 = .ok (.ireturn, 1) := by decide +kernel
set_option maxRecDepth 20000 in
theorem ggX2_assessed_X2_isAsked : GoodIn wsX2_assessed wsX2_isAsked := goodIn_r _ [6, 7, 8, 9, 10, 5, 11, 12, 13, 14, 15, 16, 17, 18, 19, 20, 21, 22, 23, 24, 25, 26, 27, 28, 29, 30, 31] (by decide +kernel) (by decide +kernel)
set_option maxRecDepth 20000 in
theorem gX2_assessed_X2_isAsked : GoodIn wsX2_assessed (wsV RX2 110 RX2 yX2_isAsked wsX2_isAsked) := goodIn_app (goodIn_of _ (by decide +kernel)) ggX2_assessed_X2_isAsked
theorem dX2_assessed_0 : decode cX2_assessed 0 = .ok (.aload_n 0, 1) := by decide +kernel
theorem dX2_assessed_1 : decode cX2_assessed 1 = .ok (.iload_n 1, 1) := by decide +kernel
theorem dX2_assessed_2 : decode cX2_assessed 2 = .ok (.iload_n 2, 1) := by decide +kernel
theorem dX2_assessed_3 : decode cX2_assessed 3 = .ok (.invokevirtual 110, 3) := by decide +kernel
theorem dX2_assessed_6 : decode cX2_assessed 6 = .ok (.ifCond .eq 17, 3) := by decide +kernel
theorem dX2_assessed_9 : decode cX2_assessed 9 = .ok (.aload_n 0, 1) := by decide +kernel
theorem dX2_assessed_10 : decode cX2_assessed 10 = .ok (.getfield 25, 3) := by decide +kernel
theorem dX2_assessed_13 : decode cX2_assessed 13 = .ok (.bipush 48, 2) := by decide +kernel
theorem dX2_assessed_15 : decode cX2_assessed 15 = .ok (.iload_n 1, 1) := by decide +kernel
theorem dX2_assessed_16 : decode cX2_assessed 16 = .ok (.imul, 1) := by decide +kernel
theorem dX2_assessed_17 : decode cX2_assessed 17 = .ok (.iload_n 2, 1) := by decide +kernel
theorem dX2_assessed_18 : decode cX2_assessed 18 = .ok (.iadd, 1) := by decide +kernel
theorem dX2_assessed_19 : decode cX2_assessed 19 = .ok (.iaload, 1) := by decide +kernel
theorem dX2_assessed_20 : decode cX2_assessed 20 = .ok (.goto 4, 3) := by decide +kernel
theorem dX2_assessed_23 : decode cX2_assessed 23 = .ok (.iconst 0, 1) := by decide +kernel
theorem dX2_assessed_24 : decode cX2_assessed 24 = .ok (.ireturn, 1) := by decide +kernel
set_option maxRecDepth 20000 in
theorem ggX2_paid_X2_isAsked : GoodIn wsX2_paid wsX2_isAsked := goodIn_r _ [6, 7, 8, 9, 10, 5, 11, 12, 13, 14, 15, 16, 17, 18, 19, 20, 21, 22, 23, 24, 25, 26, 27, 28, 29, 30, 31] (by decide +kernel) (by decide +kernel)
set_option maxRecDepth 20000 in
theorem gX2_paid_X2_isAsked : GoodIn wsX2_paid (wsV RX2 110 RX2 yX2_isAsked wsX2_isAsked) := goodIn_app (goodIn_of _ (by decide +kernel)) ggX2_paid_X2_isAsked
theorem dX2_paid_0 : decode cX2_paid 0 = .ok (.aload_n 0, 1) := by decide +kernel
theorem dX2_paid_1 : decode cX2_paid 1 = .ok (.iload_n 1, 1) := by decide +kernel
theorem dX2_paid_2 : decode cX2_paid 2 = .ok (.iload_n 2, 1) := by decide +kernel
theorem dX2_paid_3 : decode cX2_paid 3 = .ok (.invokevirtual 110, 3) := by decide +kernel
theorem dX2_paid_6 : decode cX2_paid 6 = .ok (.ifCond .eq 17, 3) := by decide +kernel
theorem dX2_paid_9 : decode cX2_paid 9 = .ok (.aload_n 0, 1) := by decide +kernel
theorem dX2_paid_10 : decode cX2_paid 10 = .ok (.getfield 28, 3) := by decide +kernel
theorem dX2_paid_13 : decode cX2_paid 13 = .ok (.bipush 48, 2) := by decide +kernel
theorem dX2_paid_15 : decode cX2_paid 15 = .ok (.iload_n 1, 1) := by decide +kernel
theorem dX2_paid_16 : decode cX2_paid 16 = .ok (.imul, 1) := by decide +kernel
theorem dX2_paid_17 : decode cX2_paid 17 = .ok (.iload_n 2, 1) := by decide +kernel
theorem dX2_paid_18 : decode cX2_paid 18 = .ok (.iadd, 1) := by decide +kernel
theorem dX2_paid_19 : decode cX2_paid 19 = .ok (.iaload, 1) := by decide +kernel
theorem dX2_paid_20 : decode cX2_paid 20 = .ok (.goto 4, 3) := by decide +kernel
theorem dX2_paid_23 : decode cX2_paid 23 = .ok (.iconst 0, 1) := by decide +kernel
theorem dX2_paid_24 : decode cX2_paid 24 = .ok (.ireturn, 1) := by decide +kernel
set_option maxRecDepth 20000 in
theorem ggX2_debt_X2_isHome : GoodIn wsX2_debt wsX2_isHome := goodIn_r _ [7, 8, 9, 10, 6, 11, 16, 17, 18, 19, 20, 21, 22, 23, 24, 25, 26, 27, 28, 29, 30, 31] (by decide +kernel) (by decide +kernel)
set_option maxRecDepth 20000 in
theorem gX2_debt_X2_isHome : GoodIn wsX2_debt (wsV RX2 52 RX2 yX2_isHome wsX2_isHome) := goodIn_app (goodIn_of _ (by decide +kernel)) ggX2_debt_X2_isHome
set_option maxRecDepth 20000 in
theorem ggX2_debt_X2_fails : GoodIn wsX2_debt wsX2_fails := goodIn_r _ [15, 1, 16, 17, 18, 19, 20, 21, 22, 23, 24, 25, 26, 27, 28, 29, 30, 31] (by decide +kernel) (by decide +kernel)
set_option maxRecDepth 20000 in
theorem gX2_debt_X2_fails : GoodIn wsX2_debt (wsV RX2 100 RX2 yX2_fails wsX2_fails) := goodIn_app (goodIn_of _ (by decide +kernel)) ggX2_debt_X2_fails
theorem dX2_debt_0 : decode cX2_debt 0 = .ok (.aload_n 0, 1) := by decide +kernel
theorem dX2_debt_1 : decode cX2_debt 1 = .ok (.iconst 0, 1) := by decide +kernel
theorem dX2_debt_2 : decode cX2_debt 2 = .ok (.putfield 41, 3) := by decide +kernel
theorem dX2_debt_5 : decode cX2_debt 5 = .ok (.aload_n 0, 1) := by decide +kernel
theorem dX2_debt_6 : decode cX2_debt 6 = .ok (.iload_n 1, 1) := by decide +kernel
theorem dX2_debt_7 : decode cX2_debt 7 = .ok (.invokevirtual 52, 3) := by decide +kernel
theorem dX2_debt_10 : decode cX2_debt 10 = .ok (.ifCond .eq 12, 3) := by decide +kernel
theorem dX2_debt_13 : decode cX2_debt 13 = .ok (.aload_n 0, 1) := by decide +kernel
theorem dX2_debt_14 : decode cX2_debt 14 = .ok (.getfield 31, 3) := by decide +kernel
theorem dX2_debt_17 : decode cX2_debt 17 = .ok (.iload_n 1, 1) := by decide +kernel
theorem dX2_debt_18 : decode cX2_debt 18 = .ok (.iaload, 1) := by decide +kernel
theorem dX2_debt_19 : decode cX2_debt 19 = .ok (.goto 8, 3) := by decide +kernel
theorem dX2_debt_22 : decode cX2_debt 22 = .ok (.aload_n 0, 1) := by decide +kernel
theorem dX2_debt_23 : decode cX2_debt 23 = .ok (.iconst 1, 1) := by decide +kernel
theorem dX2_debt_24 : decode cX2_debt 24 = .ok (.invokevirtual 100, 3) := by decide +kernel
theorem dX2_debt_27 : decode cX2_debt 27 = .ok (.ireturn, 1) := by decide +kernel
set_option maxRecDepth 20000 in
theorem ggX2_recovered_X2_isHome : GoodIn wsX2_recovered wsX2_isHome := goodIn_r _ [7, 8, 9, 10, 6, 11, 16, 17, 18, 19, 20, 21, 22, 23, 24, 25, 26, 27, 28, 29, 30, 31] (by decide +kernel) (by decide +kernel)
set_option maxRecDepth 20000 in
theorem gX2_recovered_X2_isHome : GoodIn wsX2_recovered (wsV RX2 52 RX2 yX2_isHome wsX2_isHome) := goodIn_app (goodIn_of _ (by decide +kernel)) ggX2_recovered_X2_isHome
set_option maxRecDepth 20000 in
theorem ggX2_recovered_X2_fails : GoodIn wsX2_recovered wsX2_fails := goodIn_r _ [15, 1, 16, 17, 18, 19, 20, 21, 22, 23, 24, 25, 26, 27, 28, 29, 30, 31] (by decide +kernel) (by decide +kernel)
set_option maxRecDepth 20000 in
theorem gX2_recovered_X2_fails : GoodIn wsX2_recovered (wsV RX2 100 RX2 yX2_fails wsX2_fails) := goodIn_app (goodIn_of _ (by decide +kernel)) ggX2_recovered_X2_fails
theorem dX2_recovered_0 : decode cX2_recovered 0 = .ok (.aload_n 0, 1) := by decide +kernel
theorem dX2_recovered_1 : decode cX2_recovered 1 = .ok (.iconst 0, 1) := by decide +kernel
theorem dX2_recovered_2 : decode cX2_recovered 2 = .ok (.putfield 41, 3) := by decide +kernel
theorem dX2_recovered_5 : decode cX2_recovered 5 = .ok (.aload_n 0, 1) := by decide +kernel
theorem dX2_recovered_6 : decode cX2_recovered 6 = .ok (.iload_n 1, 1) := by decide +kernel
theorem dX2_recovered_7 : decode cX2_recovered 7 = .ok (.invokevirtual 52, 3) := by decide +kernel
theorem dX2_recovered_10 : decode cX2_recovered 10 = .ok (.ifCond .eq 12, 3) := by decide +kernel
theorem dX2_recovered_13 : decode cX2_recovered 13 = .ok (.aload_n 0, 1) := by decide +kernel
theorem dX2_recovered_14 : decode cX2_recovered 14 = .ok (.getfield 34, 3) := by decide +kernel
theorem dX2_recovered_17 : decode cX2_recovered 17 = .ok (.iload_n 1, 1) := by decide +kernel
theorem dX2_recovered_18 : decode cX2_recovered 18 = .ok (.iaload, 1) := by decide +kernel
theorem dX2_recovered_19 : decode cX2_recovered 19 = .ok (.goto 8, 3) := by decide +kernel
theorem dX2_recovered_22 : decode cX2_recovered 22 = .ok (.aload_n 0, 1) := by decide +kernel
theorem dX2_recovered_23 : decode cX2_recovered 23 = .ok (.iconst 1, 1) := by decide +kernel
theorem dX2_recovered_24 : decode cX2_recovered 24 = .ok (.invokevirtual 100, 3) := by decide +kernel
theorem dX2_recovered_27 : decode cX2_recovered 27 = .ok (.ireturn, 1) := by decide +kernel
theorem dJ9_max_7cf53_0 : decode cJ9_max_7cf53 0 = .ok (.iload_n 0, 1) := by decide +kernel
theorem dJ9_max_7cf53_1 : decode cJ9_max_7cf53 1 = .ok (.iload_n 1, 1) := by decide +kernel
theorem dJ9_max_7cf53_2 : decode cJ9_max_7cf53 2 = .ok (.if_icmp .lt 7, 3) := by decide +kernel
theorem dJ9_max_7cf53_5 : decode cJ9_max_7cf53 5 = .ok (.iload_n 0, 1) := by decide +kernel
theorem dJ9_max_7cf53_6 : decode cJ9_max_7cf53 6 = .ok (.goto 4, 3) := by decide +kernel
theorem dJ9_max_7cf53_9 : decode cJ9_max_7cf53 9 = .ok (.iload_n 1, 1) := by decide +kernel
theorem dJ9_max_7cf53_10 : decode cJ9_max_7cf53 10 = .ok (.ireturn, 1) := by decide +kernel
theorem dJ9_min_7cf53_0 : decode cJ9_min_7cf53 0 = .ok (.iload_n 0, 1) := by decide +kernel
theorem dJ9_min_7cf53_1 : decode cJ9_min_7cf53 1 = .ok (.iload_n 1, 1) := by decide +kernel
theorem dJ9_min_7cf53_2 : decode cJ9_min_7cf53 2 = .ok (.if_icmp .gt 7, 3) := by decide +kernel
theorem dJ9_min_7cf53_5 : decode cJ9_min_7cf53 5 = .ok (.iload_n 0, 1) := by decide +kernel
theorem dJ9_min_7cf53_6 : decode cJ9_min_7cf53 6 = .ok (.goto 4, 3) := by decide +kernel
theorem dJ9_min_7cf53_9 : decode cJ9_min_7cf53 9 = .ok (.iload_n 1, 1) := by decide +kernel
theorem dJ9_min_7cf53_10 : decode cJ9_min_7cf53 10 = .ok (.ireturn, 1) := by decide +kernel
set_option maxRecDepth 20000 in
theorem ggL_add_X1_add : GoodIn wsL_add wsX1_add := goodIn_ca (goodIn_r _ [6, 7, 8, 9, 10, 11, 12, 13, 14, 15, 16, 17, 18, 19, 20, 21, 22, 23, 24, 25, 26, 27, 28, 29, 30, 31, 32, 33, 34, 35, 36, 37, 38] (by decide +kernel) (by decide +kernel)) (goodIn_sub (fun _ h => List.mem_cons_of_mem _ (List.mem_append_right _ h)) (by decide +kernel))
set_option maxRecDepth 20000 in
theorem gL_add_X1_add : GoodIn wsL_add (wsV RL 7 RX1 yX1_add wsX1_add) := goodIn_app (goodIn_of _ (by decide +kernel)) ggL_add_X1_add
theorem dL_add_0 : decode cL_add 0 = .ok (.aload_n 1, 1) := by decide +kernel
theorem dL_add_1 : decode cL_add 1 = .ok (.iconst 0, 1) := by decide +kernel
theorem dL_add_2 : decode cL_add 2 = .ok (.aload_n 0, 1) := by decide +kernel
theorem dL_add_3 : decode cL_add 3 = .ok (.invokevirtual 7, 3) := by decide +kernel
theorem dL_add_6 : decode cL_add 6 = .ok (.i2l, 1) := by decide +kernel
theorem dL_add_7 : decode cL_add 7 = .ok (.lastore, 1) := by decide +kernel
theorem dL_add_8 : decode cL_add 8 = .ok (.goto 6, 3) := by decide +kernel
theorem dL_add_11 : decode cL_add 11 = .ok (.astore_n 2, 1) := by decide +kernel
theorem dL_add_12 : decode cL_add 12 = .ok (.iconst 1, 1) := by decide +kernel
theorem dL_add_13 : decode cL_add 13 = .ok (.ireturn, 1) := by decide +kernel
theorem dL_add_14 : decode cL_add 14 = .ok (.iconst 0, 1) := by decide +kernel
theorem dL_add_15 : decode cL_add 15 = .ok (.ireturn, 1) := by decide +kernel
set_option maxRecDepth 20000 in
theorem ggL_tell_X1_tell : GoodIn wsL_tell wsX1_tell := goodIn_ca (goodIn_ca (goodIn_ca (goodIn_r _ [8, 9, 10, 11, 12, 13, 14, 15, 16, 17, 7, 18, 19, 20, 21, 22, 23, 24, 25, 26, 27, 28, 29, 30, 31, 32, 33, 34, 35, 36, 37, 38, 39, 40, 41, 42, 43, 44, 45, 46] (by decide +kernel) (by decide +kernel)) (goodIn_sub (fun _ h => List.mem_cons_of_mem _ (List.mem_append_left _ (List.mem_append_left _ (List.mem_append_right _ h)))) (by decide +kernel))) (goodIn_sub (fun _ h => List.mem_cons_of_mem _ (List.mem_append_left _ (List.mem_append_right _ h))) (by decide +kernel))) (goodIn_sub (fun _ h => List.mem_cons_of_mem _ (List.mem_append_right _ h)) (by decide +kernel))
set_option maxRecDepth 20000 in
theorem gL_tell_X1_tell : GoodIn wsL_tell (wsV RL 15 RX1 yX1_tell wsX1_tell) := goodIn_app (goodIn_of _ (by decide +kernel)) ggL_tell_X1_tell
theorem dL_tell_0 : decode cL_tell 0 = .ok (.aload 5, 2) := by decide +kernel
theorem dL_tell_2 : decode cL_tell 2 = .ok (.iconst 0, 1) := by decide +kernel
theorem dL_tell_3 : decode cL_tell 3 = .ok (.aload_n 0, 1) := by decide +kernel
theorem dL_tell_4 : decode cL_tell 4 = .ok (.iload_n 1, 1) := by decide +kernel
theorem dL_tell_5 : decode cL_tell 5 = .ok (.iload_n 2, 1) := by decide +kernel
theorem dL_tell_6 : decode cL_tell 6 = .ok (.iload_n 3, 1) := by decide +kernel
theorem dL_tell_7 : decode cL_tell 7 = .ok (.iload 4, 2) := by decide +kernel
theorem dL_tell_9 : decode cL_tell 9 = .ok (.invokevirtual 15, 3) := by decide +kernel
theorem dL_tell_12 : decode cL_tell 12 = .ok (.i2l, 1) := by decide +kernel
theorem dL_tell_13 : decode cL_tell 13 = .ok (.lastore, 1) := by decide +kernel
theorem dL_tell_14 : decode cL_tell 14 = .ok (.goto 15, 3) := by decide +kernel
theorem dL_tell_17 : decode cL_tell 17 = .ok (.astore 6, 2) := by decide +kernel
theorem dL_tell_19 : decode cL_tell 19 = .ok (.iconst 1, 1) := by decide +kernel
theorem dL_tell_20 : decode cL_tell 20 = .ok (.ireturn, 1) := by decide +kernel
theorem dL_tell_21 : decode cL_tell 21 = .ok (.astore 6, 2) := by decide +kernel
theorem dL_tell_23 : decode cL_tell 23 = .ok (.iconst 2, 1) := by decide +kernel
theorem dL_tell_24 : decode cL_tell 24 = .ok (.ireturn, 1) := by decide +kernel
theorem dL_tell_25 : decode cL_tell 25 = .ok (.astore 6, 2) := by decide +kernel
theorem dL_tell_27 : decode cL_tell 27 = .ok (.iconst 3, 1) := by decide +kernel
theorem dL_tell_28 : decode cL_tell 28 = .ok (.ireturn, 1) := by decide +kernel
theorem dL_tell_29 : decode cL_tell 29 = .ok (.iconst 0, 1) := by decide +kernel
theorem dL_tell_30 : decode cL_tell 30 = .ok (.ireturn, 1) := by decide +kernel
set_option maxRecDepth 20000 in
theorem ggL_dispute_X1_dispute : GoodIn wsL_dispute wsX1_dispute := goodIn_ca (goodIn_r _ [6, 7, 8, 9, 5, 10, 11, 12, 13, 14, 15, 16, 17, 18, 19, 20, 21, 22, 23, 24, 25] (by decide +kernel) (by decide +kernel)) (goodIn_sub (fun _ h => List.mem_cons_of_mem _ (List.mem_append_right _ h)) (by decide +kernel))
set_option maxRecDepth 20000 in
theorem gL_dispute_X1_dispute : GoodIn wsL_dispute (wsV RL 23 RX1 yX1_dispute wsX1_dispute) := goodIn_app (goodIn_of _ (by decide +kernel)) ggL_dispute_X1_dispute
theorem dL_dispute_0 : decode cL_dispute 0 = .ok (.aload_n 3, 1) := by decide +kernel
theorem dL_dispute_1 : decode cL_dispute 1 = .ok (.iconst 0, 1) := by decide +kernel
theorem dL_dispute_2 : decode cL_dispute 2 = .ok (.aload_n 0, 1) := by decide +kernel
theorem dL_dispute_3 : decode cL_dispute 3 = .ok (.iload_n 1, 1) := by decide +kernel
theorem dL_dispute_4 : decode cL_dispute 4 = .ok (.iload_n 2, 1) := by decide +kernel
theorem dL_dispute_5 : decode cL_dispute 5 = .ok (.invokevirtual 23, 3) := by decide +kernel
theorem dL_dispute_8 : decode cL_dispute 8 = .ok (.ifCond .eq 7, 3) := by decide +kernel
theorem dL_dispute_11 : decode cL_dispute 11 = .ok (.lconst 1, 1) := by decide +kernel
theorem dL_dispute_12 : decode cL_dispute 12 = .ok (.goto 4, 3) := by decide +kernel
theorem dL_dispute_15 : decode cL_dispute 15 = .ok (.lconst 0, 1) := by decide +kernel
theorem dL_dispute_16 : decode cL_dispute 16 = .ok (.lastore, 1) := by decide +kernel
theorem dL_dispute_17 : decode cL_dispute 17 = .ok (.goto 7, 3) := by decide +kernel
theorem dL_dispute_20 : decode cL_dispute 20 = .ok (.astore 4, 2) := by decide +kernel
theorem dL_dispute_22 : decode cL_dispute 22 = .ok (.iconst 1, 1) := by decide +kernel
theorem dL_dispute_23 : decode cL_dispute 23 = .ok (.ireturn, 1) := by decide +kernel
theorem dL_dispute_24 : decode cL_dispute 24 = .ok (.iconst 0, 1) := by decide +kernel
theorem dL_dispute_25 : decode cL_dispute 25 = .ok (.ireturn, 1) := by decide +kernel
set_option maxRecDepth 20000 in
theorem ggL_payBack_X1_payBack : GoodIn wsL_payBack wsX1_payBack := goodIn_ca (goodIn_ca (goodIn_ca (goodIn_r _ [8, 9, 10, 11, 12, 13, 14, 15, 16, 7, 17, 18, 19, 20, 21, 22, 23, 24, 25, 26, 27, 28, 29, 30, 31, 32, 33, 34, 35, 36, 37, 38] (by decide +kernel) (by decide +kernel)) (goodIn_sub (fun _ h => List.mem_cons_of_mem _ (List.mem_append_left _ (List.mem_append_left _ (List.mem_append_right _ h)))) (by decide +kernel))) (goodIn_sub (fun _ h => List.mem_cons_of_mem _ (List.mem_append_left _ (List.mem_append_right _ h))) (by decide +kernel))) (goodIn_sub (fun _ h => List.mem_cons_of_mem _ (List.mem_append_right _ h)) (by decide +kernel))
set_option maxRecDepth 20000 in
theorem gL_payBack_X1_payBack : GoodIn wsL_payBack (wsV RL 27 RX1 yX1_payBack wsX1_payBack) := goodIn_app (goodIn_of _ (by decide +kernel)) ggL_payBack_X1_payBack
theorem dL_payBack_0 : decode cL_payBack 0 = .ok (.aload_n 3, 1) := by decide +kernel
theorem dL_payBack_1 : decode cL_payBack 1 = .ok (.iconst 0, 1) := by decide +kernel
theorem dL_payBack_2 : decode cL_payBack 2 = .ok (.aload_n 0, 1) := by decide +kernel
theorem dL_payBack_3 : decode cL_payBack 3 = .ok (.iload_n 1, 1) := by decide +kernel
theorem dL_payBack_4 : decode cL_payBack 4 = .ok (.iload_n 2, 1) := by decide +kernel
theorem dL_payBack_5 : decode cL_payBack 5 = .ok (.invokevirtual 27, 3) := by decide +kernel
theorem dL_payBack_8 : decode cL_payBack 8 = .ok (.i2l, 1) := by decide +kernel
theorem dL_payBack_9 : decode cL_payBack 9 = .ok (.lastore, 1) := by decide +kernel
theorem dL_payBack_10 : decode cL_payBack 10 = .ok (.goto 15, 3) := by decide +kernel
theorem dL_payBack_13 : decode cL_payBack 13 = .ok (.astore 4, 2) := by decide +kernel
theorem dL_payBack_15 : decode cL_payBack 15 = .ok (.iconst 1, 1) := by decide +kernel
theorem dL_payBack_16 : decode cL_payBack 16 = .ok (.ireturn, 1) := by decide +kernel
theorem dL_payBack_17 : decode cL_payBack 17 = .ok (.astore 4, 2) := by decide +kernel
theorem dL_payBack_19 : decode cL_payBack 19 = .ok (.iconst 2, 1) := by decide +kernel
theorem dL_payBack_20 : decode cL_payBack 20 = .ok (.ireturn, 1) := by decide +kernel
theorem dL_payBack_21 : decode cL_payBack 21 = .ok (.astore 4, 2) := by decide +kernel
theorem dL_payBack_23 : decode cL_payBack 23 = .ok (.iconst 3, 1) := by decide +kernel
theorem dL_payBack_24 : decode cL_payBack 24 = .ok (.ireturn, 1) := by decide +kernel
theorem dL_payBack_25 : decode cL_payBack 25 = .ok (.iconst 0, 1) := by decide +kernel
theorem dL_payBack_26 : decode cL_payBack 26 = .ok (.ireturn, 1) := by decide +kernel
set_option maxRecDepth 20000 in
theorem ggL_close_X1_close : GoodIn wsL_close wsX1_close := goodIn_ca (goodIn_r _ [6, 7, 8, 9, 10, 11, 12, 13, 14, 15, 16, 17, 18, 19, 20, 21, 22, 23, 24, 25, 26, 27, 28, 29, 30, 31, 32, 33, 34, 35, 36, 37, 38, 39, 40, 41, 42, 43, 44, 45, 46, 47, 48, 49, 50, 51, 52, 53, 54, 55, 56, 57, 58, 59, 60, 61, 62, 63, 64, 65, 66, 67, 68, 69, 70, 71, 72, 73, 74, 75, 76, 77, 78, 79, 80, 81, 82, 83] (by decide +kernel) (by decide +kernel)) (goodIn_sub (fun _ h => List.mem_cons_of_mem _ (List.mem_append_right _ h)) (by decide +kernel))
set_option maxRecDepth 20000 in
theorem gL_close_X1_close : GoodIn wsL_close (wsV RL 31 RX1 yX1_close wsX1_close) := goodIn_app (goodIn_of _ (by decide +kernel)) ggL_close_X1_close
theorem dL_close_0 : decode cL_close 0 = .ok (.aload_n 1, 1) := by decide +kernel
theorem dL_close_1 : decode cL_close 1 = .ok (.iconst 0, 1) := by decide +kernel
theorem dL_close_2 : decode cL_close 2 = .ok (.aload_n 0, 1) := by decide +kernel
