theorem dX0_init_0 : decode cX0_init 0 = .ok (.aload_n 0, 1) := by decide +kernel
theorem dX0_init_1 : decode cX0_init 1 = .ok (.invokespecial 3, 3) := by decide +kernel
theorem dX0_init_4 : decode cX0_init 4 = .ok (.aload_n 0, 1) := by decide +kernel
theorem dX0_init_5 : decode cX0_init 5 = .ok (.iload_n 1, 1) := by decide +kernel
theorem dX0_init_6 : decode cX0_init 6 = .ok (.putfield 9, 3) := by decide +kernel
theorem dX0_init_9 : decode cX0_init 9 = .ok (.aload_n 0, 1) := by decide +kernel
theorem dX0_init_10 : decode cX0_init 10 = .ok (.iconst 5, 1) := by decide +kernel
theorem dX0_init_11 : decode cX0_init 11 = .ok (.bipush 48, 2) := by decide +kernel
theorem dX0_init_13 : decode cX0_init 13 = .ok (.multianewarray 15 2, 4) := by decide +kernel
theorem dX0_init_17 : decode cX0_init 17 = .ok (.putfield 17, 3) := by decide +kernel
theorem dX0_init_20 : decode cX0_init 20 = .ok (.aload_n 0, 1) := by decide +kernel
theorem dX0_init_21 : decode cX0_init 21 = .ok (.iconst 5, 1) := by decide +kernel
theorem dX0_init_22 : decode cX0_init 22 = .ok (.bipush 48, 2) := by decide +kernel
theorem dX0_init_24 : decode cX0_init 24 = .ok (.multianewarray 15 2, 4) := by decide +kernel
theorem dX0_init_28 : decode cX0_init 28 = .ok (.putfield 20, 3) := by decide +kernel
theorem dX0_init_31 : decode cX0_init 31 = .ok (.aload_n 0, 1) := by decide +kernel
theorem dX0_init_32 : decode cX0_init 32 = .ok (.bipush 48, 2) := by decide +kernel
theorem dX0_init_34 : decode cX0_init 34 = .ok (.newarray .int, 2) := by decide +kernel
theorem dX0_init_36 : decode cX0_init 36 = .ok (.putfield 23, 3) := by decide +kernel
theorem dX0_init_39 : decode cX0_init 39 = .ok (.aload_n 0, 1) := by decide +kernel
theorem dX0_init_40 : decode cX0_init 40 = .ok (.bipush 48, 2) := by decide +kernel
theorem dX0_init_42 : decode cX0_init 42 = .ok (.newarray .int, 2) := by decide +kernel
theorem dX0_init_44 : decode cX0_init 44 = .ok (.putfield 27, 3) := by decide +kernel
theorem dX0_init_47 : decode cX0_init 47 = .ok (.iconst 0, 1) := by decide +kernel
theorem dX0_init_48 : decode cX0_init 48 = .ok (.istore_n 2, 1) := by decide +kernel
theorem dX0_init_49 : decode cX0_init 49 = .ok (.iload_n 2, 1) := by decide +kernel
theorem dX0_init_50 : decode cX0_init 50 = .ok (.bipush 48, 2) := by decide +kernel
theorem dX0_init_52 : decode cX0_init 52 = .ok (.if_icmp .ge 18, 3) := by decide +kernel
theorem dX0_init_55 : decode cX0_init 55 = .ok (.aload_n 0, 1) := by decide +kernel
theorem dX0_init_56 : decode cX0_init 56 = .ok (.getfield 17, 3) := by decide +kernel
theorem dX0_init_59 : decode cX0_init 59 = .ok (.iconst 0, 1) := by decide +kernel
theorem dX0_init_60 : decode cX0_init 60 = .ok (.aaload, 1) := by decide +kernel
theorem dX0_init_61 : decode cX0_init 61 = .ok (.iload_n 2, 1) := by decide +kernel
theorem dX0_init_62 : decode cX0_init 62 = .ok (.iconst 1, 1) := by decide +kernel
theorem dX0_init_63 : decode cX0_init 63 = .ok (.iastore, 1) := by decide +kernel
theorem dX0_init_64 : decode cX0_init 64 = .ok (.iinc 2 1, 3) := by decide +kernel
theorem dX0_init_67 : decode cX0_init 67 = .ok (.goto (-18), 3) := by decide +kernel
theorem dX0_init_70 : decode cX0_init 70 = .ok (.return_, 1) := by decide +kernel
theorem dX0_change_0 : decode cX0_change 0 = .ok (.aload_n 0, 1) := by decide +kernel
theorem dX0_change_1 : decode cX0_change 1 = .ok (.dup, 1) := by decide +kernel
theorem dX0_change_2 : decode cX0_change 2 = .ok (.getfield 30, 3) := by decide +kernel
theorem dX0_change_5 : decode cX0_change 5 = .ok (.iconst 1, 1) := by decide +kernel
theorem dX0_change_6 : decode cX0_change 6 = .ok (.iadd, 1) := by decide +kernel
theorem dX0_change_7 : decode cX0_change 7 = .ok (.putfield 30, 3) := by decide +kernel
theorem dX0_change_10 : decode cX0_change 10 = .ok (.iload_n 2, 1) := by decide +kernel
theorem dX0_change_11 : decode cX0_change 11 = .ok (.istore 4, 2) := by decide +kernel
theorem dX0_change_13 : decode cX0_change 13 = .ok (.iload 4, 2) := by decide +kernel
theorem dX0_change_15 : decode cX0_change 15 = .ok (.bipush 48, 2) := by decide +kernel
theorem dX0_change_17 : decode cX0_change 17 = .ok (.if_icmp .ge 42, 3) := by decide +kernel
theorem dX0_change_20 : decode cX0_change 20 = .ok (.aload_n 0, 1) := by decide +kernel
theorem dX0_change_21 : decode cX0_change 21 = .ok (.getfield 20, 3) := by decide +kernel
theorem dX0_change_24 : decode cX0_change 24 = .ok (.iload_n 1, 1) := by decide +kernel
theorem dX0_change_25 : decode cX0_change 25 = .ok (.aaload, 1) := by decide +kernel
theorem dX0_change_26 : decode cX0_change 26 = .ok (.iload 4, 2) := by decide +kernel
theorem dX0_change_28 : decode cX0_change 28 = .ok (.iaload, 1) := by decide +kernel
theorem dX0_change_29 : decode cX0_change 29 = .ok (.iload_n 2, 1) := by decide +kernel
theorem dX0_change_30 : decode cX0_change 30 = .ok (.if_icmp .gt 29, 3) := by decide +kernel
theorem dX0_change_33 : decode cX0_change 33 = .ok (.aload_n 0, 1) := by decide +kernel
theorem dX0_change_34 : decode cX0_change 34 = .ok (.getfield 17, 3) := by decide +kernel
theorem dX0_change_37 : decode cX0_change 37 = .ok (.iload_n 1, 1) := by decide +kernel
theorem dX0_change_38 : decode cX0_change 38 = .ok (.aaload, 1) := by decide +kernel
theorem dX0_change_39 : decode cX0_change 39 = .ok (.iload 4, 2) := by decide +kernel
theorem dX0_change_41 : decode cX0_change 41 = .ok (.iload_n 3, 1) := by decide +kernel
theorem dX0_change_42 : decode cX0_change 42 = .ok (.iastore, 1) := by decide +kernel
theorem dX0_change_43 : decode cX0_change 43 = .ok (.aload_n 0, 1) := by decide +kernel
theorem dX0_change_44 : decode cX0_change 44 = .ok (.getfield 20, 3) := by decide +kernel
theorem dX0_change_47 : decode cX0_change 47 = .ok (.iload_n 1, 1) := by decide +kernel
theorem dX0_change_48 : decode cX0_change 48 = .ok (.aaload, 1) := by decide +kernel
theorem dX0_change_49 : decode cX0_change 49 = .ok (.iload 4, 2) := by decide +kernel
theorem dX0_change_51 : decode cX0_change 51 = .ok (.iload_n 2, 1) := by decide +kernel
theorem dX0_change_52 : decode cX0_change 52 = .ok (.iastore, 1) := by decide +kernel
theorem dX0_change_53 : decode cX0_change 53 = .ok (.iinc 4 1, 3) := by decide +kernel
theorem dX0_change_56 : decode cX0_change 56 = .ok (.goto (-43), 3) := by decide +kernel
theorem dX0_change_59 : decode cX0_change 59 = .ok (.return_, 1) := by decide +kernel
theorem dX0_needIn_0 : decode cX0_needIn 0 = .ok (.sipush 30000, 3) := by decide +kernel
theorem dX0_needIn_3 : decode cX0_needIn 3 = .ok (.aload_n 0, 1) := by decide +kernel
theorem dX0_needIn_4 : decode cX0_needIn 4 = .ok (.getfield 17, 3) := by decide +kernel
theorem dX0_needIn_7 : decode cX0_needIn 7 = .ok (.iconst 1, 1) := by decide +kernel
theorem dX0_needIn_8 : decode cX0_needIn 8 = .ok (.aaload, 1) := by decide +kernel
theorem dX0_needIn_9 : decode cX0_needIn 9 = .ok (.iload_n 1, 1) := by decide +kernel
theorem dX0_needIn_10 : decode cX0_needIn 10 = .ok (.iaload, 1) := by decide +kernel
theorem dX0_needIn_11 : decode cX0_needIn 11 = .ok (.sipush 8000, 3) := by decide +kernel
theorem dX0_needIn_14 : decode cX0_needIn 14 = .ok (.imul, 1) := by decide +kernel
theorem dX0_needIn_15 : decode cX0_needIn 15 = .ok (.iadd, 1) := by decide +kernel
theorem dX0_needIn_16 : decode cX0_needIn 16 = .ok (.istore_n 2, 1) := by decide +kernel
theorem dX0_needIn_17 : decode cX0_needIn 17 = .ok (.aload_n 0, 1) := by decide +kernel
theorem dX0_needIn_18 : decode cX0_needIn 18 = .ok (.getfield 17, 3) := by decide +kernel
theorem dX0_needIn_21 : decode cX0_needIn 21 = .ok (.iconst 0, 1) := by decide +kernel
theorem dX0_needIn_22 : decode cX0_needIn 22 = .ok (.aaload, 1) := by decide +kernel
theorem dX0_needIn_23 : decode cX0_needIn 23 = .ok (.iload_n 1, 1) := by decide +kernel
theorem dX0_needIn_24 : decode cX0_needIn 24 = .ok (.iaload, 1) := by decide +kernel
theorem dX0_needIn_25 : decode cX0_needIn 25 = .ok (.iconst 1, 1) := by decide +kernel
theorem dX0_needIn_26 : decode cX0_needIn 26 = .ok (.if_icmp .le 9, 3) := by decide +kernel
theorem dX0_needIn_29 : decode cX0_needIn 29 = .ok (.iinc 2 12000, 6) := by decide +kernel
theorem dX0_needIn_35 : decode cX0_needIn 35 = .ok (.iload_n 2, 1) := by decide +kernel
theorem dX0_needIn_36 : decode cX0_needIn 36 = .ok (.aload_n 0, 1) := by decide +kernel
theorem dX0_needIn_37 : decode cX0_needIn 37 = .ok (.getfield 17, 3) := by decide +kernel
theorem dX0_needIn_40 : decode cX0_needIn 40 = .ok (.iconst 2, 1) := by decide +kernel
theorem dX0_needIn_41 : decode cX0_needIn 41 = .ok (.aaload, 1) := by decide +kernel
theorem dX0_needIn_42 : decode cX0_needIn 42 = .ok (.iload_n 1, 1) := by decide +kernel
theorem dX0_needIn_43 : decode cX0_needIn 43 = .ok (.iaload, 1) := by decide +kernel
theorem dX0_needIn_44 : decode cX0_needIn 44 = .ok (.ldc 33, 2) := by decide +kernel
theorem dX0_needIn_46 : decode cX0_needIn 46 = .ok (.invokestatic 34, 3) := by decide +kernel
theorem dX0_needIn_49 : decode cX0_needIn 49 = .ok (.iadd, 1) := by decide +kernel
theorem dX0_needIn_50 : decode cX0_needIn 50 = .ok (.ireturn, 1) := by decide +kernel
theorem dX0_taperIn_0 : decode cX0_taperIn 0 = .ok (.iconst 0, 1) := by decide +kernel
theorem dX0_taperIn_1 : decode cX0_taperIn 1 = .ok (.aload_n 0, 1) := by decide +kernel
theorem dX0_taperIn_2 : decode cX0_taperIn 2 = .ok (.getfield 17, 3) := by decide +kernel
theorem dX0_taperIn_5 : decode cX0_taperIn 5 = .ok (.iconst 3, 1) := by decide +kernel
theorem dX0_taperIn_6 : decode cX0_taperIn 6 = .ok (.aaload, 1) := by decide +kernel
theorem dX0_taperIn_7 : decode cX0_taperIn 7 = .ok (.iload_n 1, 1) := by decide +kernel
theorem dX0_taperIn_8 : decode cX0_taperIn 8 = .ok (.iaload, 1) := by decide +kernel
theorem dX0_taperIn_9 : decode cX0_taperIn 9 = .ok (.sipush 20000, 3) := by decide +kernel
theorem dX0_taperIn_12 : decode cX0_taperIn 12 = .ok (.isub, 1) := by decide +kernel
theorem dX0_taperIn_13 : decode cX0_taperIn 13 = .ok (.invokestatic 40, 3) := by decide +kernel
theorem dX0_taperIn_16 : decode cX0_taperIn 16 = .ok (.istore_n 2, 1) := by decide +kernel
theorem dX0_taperIn_17 : decode cX0_taperIn 17 = .ok (.iload_n 2, 1) := by decide +kernel
theorem dX0_taperIn_18 : decode cX0_taperIn 18 = .ok (.bipush 60, 2) := by decide +kernel
theorem dX0_taperIn_20 : decode cX0_taperIn 20 = .ok (.imul, 1) := by decide +kernel
theorem dX0_taperIn_21 : decode cX0_taperIn 21 = .ok (.bipush 100, 2) := by decide +kernel
theorem dX0_taperIn_23 : decode cX0_taperIn 23 = .ok (.idiv, 1) := by decide +kernel
theorem dX0_taperIn_24 : decode cX0_taperIn 24 = .ok (.ireturn, 1) := by decide +kernel
theorem dX0_tariffIn_0 : decode cX0_tariffIn 0 = .ok (.iconst 0, 1) := by decide +kernel
theorem dX0_tariffIn_1 : decode cX0_tariffIn 1 = .ok (.aload_n 0, 1) := by decide +kernel
theorem dX0_tariffIn_2 : decode cX0_tariffIn 2 = .ok (.getfield 17, 3) := by decide +kernel
theorem dX0_tariffIn_5 : decode cX0_tariffIn 5 = .ok (.iconst 4, 1) := by decide +kernel
theorem dX0_tariffIn_6 : decode cX0_tariffIn 6 = .ok (.aaload, 1) := by decide +kernel
theorem dX0_tariffIn_7 : decode cX0_tariffIn 7 = .ok (.iload_n 1, 1) := by decide +kernel
theorem dX0_tariffIn_8 : decode cX0_tariffIn 8 = .ok (.iaload, 1) := by decide +kernel
theorem dX0_tariffIn_9 : decode cX0_tariffIn 9 = .ok (.ldc 43, 2) := by decide +kernel
theorem dX0_tariffIn_11 : decode cX0_tariffIn 11 = .ok (.isub, 1) := by decide +kernel
theorem dX0_tariffIn_12 : decode cX0_tariffIn 12 = .ok (.invokestatic 40, 3) := by decide +kernel
theorem dX0_tariffIn_15 : decode cX0_tariffIn 15 = .ok (.istore_n 2, 1) := by decide +kernel
theorem dX0_tariffIn_16 : decode cX0_tariffIn 16 = .ok (.iload_n 2, 1) := by decide +kernel
theorem dX0_tariffIn_17 : decode cX0_tariffIn 17 = .ok (.sipush 25000, 3) := by decide +kernel
theorem dX0_tariffIn_20 : decode cX0_tariffIn 20 = .ok (.iadd, 1) := by decide +kernel
theorem dX0_tariffIn_21 : decode cX0_tariffIn 21 = .ok (.iconst 1, 1) := by decide +kernel
theorem dX0_tariffIn_22 : decode cX0_tariffIn 22 = .ok (.isub, 1) := by decide +kernel
theorem dX0_tariffIn_23 : decode cX0_tariffIn 23 = .ok (.sipush 25000, 3) := by decide +kernel
theorem dX0_tariffIn_26 : decode cX0_tariffIn 26 = .ok (.idiv, 1) := by decide +kernel
theorem dX0_tariffIn_27 : decode cX0_tariffIn 27 = .ok (.istore_n 3, 1) := by decide +kernel
theorem dX0_tariffIn_28 : decode cX0_tariffIn 28 = .ok (.iload_n 3, 1) := by decide +kernel
theorem dX0_tariffIn_29 : decode cX0_tariffIn 29 = .ok (.sipush 500, 3) := by decide +kernel
theorem dX0_tariffIn_32 : decode cX0_tariffIn 32 = .ok (.imul, 1) := by decide +kernel
theorem dX0_tariffIn_33 : decode cX0_tariffIn 33 = .ok (.ireturn, 1) := by decide +kernel
set_option maxRecDepth 20000 in
theorem ggX0_dueIn_X0_needIn : GoodIn wsX0_dueIn wsX0_needIn := goodIn_r _ [7, 1, 8, 9, 10, 11, 12, 25, 26, 27, 28, 29, 30, 31, 32, 33] (by decide +kernel) (by decide +kernel)
set_option maxRecDepth 20000 in
theorem gX0_dueIn_X0_needIn : GoodIn wsX0_dueIn (wsV RX0 45 RX0 yX0_needIn wsX0_needIn) := goodIn_app (goodIn_of _ (by decide +kernel)) ggX0_dueIn_X0_needIn
set_option maxRecDepth 20000 in
theorem ggX0_dueIn_X0_taperIn : GoodIn wsX0_dueIn wsX0_taperIn := goodIn_r _ [16, 1, 17, 18, 11, 19, 25, 26, 27, 28, 29, 30, 31, 32, 33] (by decide +kernel) (by decide +kernel)
set_option maxRecDepth 20000 in
theorem gX0_dueIn_X0_taperIn : GoodIn wsX0_dueIn (wsV RX0 49 RX0 yX0_taperIn wsX0_taperIn) := goodIn_app (goodIn_of _ (by decide +kernel)) ggX0_dueIn_X0_taperIn
set_option maxRecDepth 20000 in
theorem ggX0_dueIn_X0_tariffIn : GoodIn wsX0_dueIn wsX0_tariffIn := goodIn_r _ [23, 1, 24, 17, 18, 11, 19, 25, 26, 27, 28, 29, 30, 31, 32, 33] (by decide +kernel) (by decide +kernel)
set_option maxRecDepth 20000 in
theorem gX0_dueIn_X0_tariffIn : GoodIn wsX0_dueIn (wsV RX0 52 RX0 yX0_tariffIn wsX0_tariffIn) := goodIn_app (goodIn_of _ (by decide +kernel)) ggX0_dueIn_X0_tariffIn
theorem dX0_dueIn_0 : decode cX0_dueIn 0 = .ok (.aload_n 0, 1) := by decide +kernel
theorem dX0_dueIn_1 : decode cX0_dueIn 1 = .ok (.getfield 17, 3) := by decide +kernel
theorem dX0_dueIn_4 : decode cX0_dueIn 4 = .ok (.iconst 4, 1) := by decide +kernel
theorem dX0_dueIn_5 : decode cX0_dueIn 5 = .ok (.aaload, 1) := by decide +kernel
theorem dX0_dueIn_6 : decode cX0_dueIn 6 = .ok (.iload_n 1, 1) := by decide +kernel
theorem dX0_dueIn_7 : decode cX0_dueIn 7 = .ok (.iaload, 1) := by decide +kernel
theorem dX0_dueIn_8 : decode cX0_dueIn 8 = .ok (.ldc 44, 2) := by decide +kernel
theorem dX0_dueIn_10 : decode cX0_dueIn 10 = .ok (.if_icmp .le 5, 3) := by decide +kernel
theorem dX0_dueIn_13 : decode cX0_dueIn 13 = .ok (.iconst 0, 1) := by decide +kernel
theorem dX0_dueIn_14 : decode cX0_dueIn 14 = .ok (.ireturn, 1) := by decide +kernel
theorem dX0_dueIn_15 : decode cX0_dueIn 15 = .ok (.aload_n 0, 1) := by decide +kernel
theorem dX0_dueIn_16 : decode cX0_dueIn 16 = .ok (.iload_n 1, 1) := by decide +kernel
theorem dX0_dueIn_17 : decode cX0_dueIn 17 = .ok (.invokevirtual 45, 3) := by decide +kernel
theorem dX0_dueIn_20 : decode cX0_dueIn 20 = .ok (.aload_n 0, 1) := by decide +kernel
theorem dX0_dueIn_21 : decode cX0_dueIn 21 = .ok (.iload_n 1, 1) := by decide +kernel
theorem dX0_dueIn_22 : decode cX0_dueIn 22 = .ok (.invokevirtual 49, 3) := by decide +kernel
theorem dX0_dueIn_25 : decode cX0_dueIn 25 = .ok (.isub, 1) := by decide +kernel
theorem dX0_dueIn_26 : decode cX0_dueIn 26 = .ok (.aload_n 0, 1) := by decide +kernel
theorem dX0_dueIn_27 : decode cX0_dueIn 27 = .ok (.iload_n 1, 1) := by decide +kernel
theorem dX0_dueIn_28 : decode cX0_dueIn 28 = .ok (.invokevirtual 52, 3) := by decide +kernel
theorem dX0_dueIn_31 : decode cX0_dueIn 31 = .ok (.isub, 1) := by decide +kernel
theorem dX0_dueIn_32 : decode cX0_dueIn 32 = .ok (.istore_n 2, 1) := by decide +kernel
theorem dX0_dueIn_33 : decode cX0_dueIn 33 = .ok (.iload_n 2, 1) := by decide +kernel
theorem dX0_dueIn_34 : decode cX0_dueIn 34 = .ok (.sipush 500, 3) := by decide +kernel
theorem dX0_dueIn_37 : decode cX0_dueIn 37 = .ok (.if_icmp .ge 7, 3) := by decide +kernel
theorem dX0_dueIn_40 : decode cX0_dueIn 40 = .ok (.iconst 0, 1) := by decide +kernel
theorem dX0_dueIn_41 : decode cX0_dueIn 41 = .ok (.goto 4, 3) := by decide +kernel
theorem dX0_dueIn_44 : decode cX0_dueIn 44 = .ok (.iload_n 2, 1) := by decide +kernel
theorem dX0_dueIn_45 : decode cX0_dueIn 45 = .ok (.ireturn, 1) := by decide +kernel
set_option maxRecDepth 20000 in
theorem ggX0_unassessedBefore_X0_dueIn : GoodIn wsX0_unassessedBefore wsX0_dueIn := goodIn_r _ [7, 8, 9, 10, 11, 12, 6, 13, 14, 15, 16, 17, 18, 19, 20, 21, 22, 23, 24, 25, 26, 27, 28, 29, 30, 31, 32, 33, 34, 35, 36, 37, 38, 39] (by decide +kernel) (by decide +kernel)
set_option maxRecDepth 20000 in
theorem gX0_unassessedBefore_X0_dueIn : GoodIn wsX0_unassessedBefore (wsV RX0 55 RX0 yX0_dueIn wsX0_dueIn) := goodIn_app (goodIn_of _ (by decide +kernel)) ggX0_unassessedBefore_X0_dueIn
theorem dX0_unassessedBefore_0 : decode cX0_unassessedBefore 0 = .ok (.iconst 0, 1) := by decide +kernel
theorem dX0_unassessedBefore_1 : decode cX0_unassessedBefore 1 = .ok (.istore_n 2, 1) := by decide +kernel
theorem dX0_unassessedBefore_2 : decode cX0_unassessedBefore 2 = .ok (.aload_n 0, 1) := by decide +kernel
theorem dX0_unassessedBefore_3 : decode cX0_unassessedBefore 3 = .ok (.getfield 9, 3) := by decide +kernel
theorem dX0_unassessedBefore_6 : decode cX0_unassessedBefore 6 = .ok (.istore_n 3, 1) := by decide +kernel
theorem dX0_unassessedBefore_7 : decode cX0_unassessedBefore 7 = .ok (.iload_n 3, 1) := by decide +kernel
theorem dX0_unassessedBefore_8 : decode cX0_unassessedBefore 8 = .ok (.iload_n 1, 1) := by decide +kernel
theorem dX0_unassessedBefore_9 : decode cX0_unassessedBefore 9 = .ok (.if_icmp .ge 24, 3) := by decide +kernel
theorem dX0_unassessedBefore_12 : decode cX0_unassessedBefore 12 = .ok (.iload_n 2, 1) := by decide +kernel
theorem dX0_unassessedBefore_13 : decode cX0_unassessedBefore 13 = .ok (.aload_n 0, 1) := by decide +kernel
theorem dX0_unassessedBefore_14 : decode cX0_unassessedBefore 14 = .ok (.iload_n 3, 1) := by decide +kernel
theorem dX0_unassessedBefore_15 : decode cX0_unassessedBefore 15 = .ok (.invokevirtual 55, 3) := by decide +kernel
theorem dX0_unassessedBefore_18 : decode cX0_unassessedBefore 18 = .ok (.aload_n 0, 1) := by decide +kernel
theorem dX0_unassessedBefore_19 : decode cX0_unassessedBefore 19 = .ok (.getfield 23, 3) := by decide +kernel
theorem dX0_unassessedBefore_22 : decode cX0_unassessedBefore 22 = .ok (.iload_n 3, 1) := by decide +kernel
theorem dX0_unassessedBefore_23 : decode cX0_unassessedBefore 23 = .ok (.iaload, 1) := by decide +kernel
theorem dX0_unassessedBefore_24 : decode cX0_unassessedBefore 24 = .ok (.isub, 1) := by decide +kernel
theorem dX0_unassessedBefore_25 : decode cX0_unassessedBefore 25 = .ok (.iadd, 1) := by decide +kernel
theorem dX0_unassessedBefore_26 : decode cX0_unassessedBefore 26 = .ok (.istore_n 2, 1) := by decide +kernel
theorem dX0_unassessedBefore_27 : decode cX0_unassessedBefore 27 = .ok (.iinc 3 1, 3) := by decide +kernel
theorem dX0_unassessedBefore_30 : decode cX0_unassessedBefore 30 = .ok (.goto (-23), 3) := by decide +kernel
theorem dX0_unassessedBefore_33 : decode cX0_unassessedBefore 33 = .ok (.iload_n 2, 1) := by decide +kernel
theorem dX0_unassessedBefore_34 : decode cX0_unassessedBefore 34 = .ok (.ireturn, 1) := by decide +kernel
theorem dX0_owedAfter_0 : decode cX0_owedAfter 0 = .ok (.iconst 0, 1) := by decide +kernel
theorem dX0_owedAfter_1 : decode cX0_owedAfter 1 = .ok (.aload_n 0, 1) := by decide +kernel
theorem dX0_owedAfter_2 : decode cX0_owedAfter 2 = .ok (.getfield 58, 3) := by decide +kernel
theorem dX0_owedAfter_5 : decode cX0_owedAfter 5 = .ok (.iload_n 1, 1) := by decide +kernel
theorem dX0_owedAfter_6 : decode cX0_owedAfter 6 = .ok (.isub, 1) := by decide +kernel
theorem dX0_owedAfter_7 : decode cX0_owedAfter 7 = .ok (.invokestatic 40, 3) := by decide +kernel
theorem dX0_owedAfter_10 : decode cX0_owedAfter 10 = .ok (.ireturn, 1) := by decide +kernel
theorem dX0_arrearsOf_0 : decode cX0_arrearsOf 0 = .ok (.iconst 0, 1) := by decide +kernel
theorem dX0_arrearsOf_1 : decode cX0_arrearsOf 1 = .ok (.iload_n 1, 1) := by decide +kernel
theorem dX0_arrearsOf_2 : decode cX0_arrearsOf 2 = .ok (.aload_n 0, 1) := by decide +kernel
theorem dX0_arrearsOf_3 : decode cX0_arrearsOf 3 = .ok (.getfield 58, 3) := by decide +kernel
theorem dX0_arrearsOf_6 : decode cX0_arrearsOf 6 = .ok (.isub, 1) := by decide +kernel
theorem dX0_arrearsOf_7 : decode cX0_arrearsOf 7 = .ok (.invokestatic 40, 3) := by decide +kernel
theorem dX0_arrearsOf_10 : decode cX0_arrearsOf 10 = .ok (.ireturn, 1) := by decide +kernel
set_option maxRecDepth 20000 in
theorem ggX0_recoverableIn_X0_dueIn : GoodIn wsX0_recoverableIn wsX0_dueIn := goodIn_r _ [14, 2, 15, 16, 17, 18, 13, 19, 20, 7, 8, 5, 9, 21, 22, 23, 24, 3, 4, 6, 25, 26, 27, 28, 29, 30, 31, 32, 33, 34, 35, 36, 37, 38] (by decide +kernel) (by decide +kernel)
set_option maxRecDepth 20000 in
theorem gX0_recoverableIn_X0_dueIn : GoodIn wsX0_recoverableIn (wsV RX0 55 RX0 yX0_dueIn wsX0_dueIn) := goodIn_app (goodIn_of _ (by decide +kernel)) ggX0_recoverableIn_X0_dueIn
theorem dX0_recoverableIn_0 : decode cX0_recoverableIn 0 = .ok (.aload_n 0, 1) := by decide +kernel
theorem dX0_recoverableIn_1 : decode cX0_recoverableIn 1 = .ok (.getfield 61, 3) := by decide +kernel
theorem dX0_recoverableIn_4 : decode cX0_recoverableIn 4 = .ok (.ifCond .eq 5, 3) := by decide +kernel
theorem dX0_recoverableIn_7 : decode cX0_recoverableIn 7 = .ok (.iconst 0, 1) := by decide +kernel
theorem dX0_recoverableIn_8 : decode cX0_recoverableIn 8 = .ok (.ireturn, 1) := by decide +kernel
theorem dX0_recoverableIn_9 : decode cX0_recoverableIn 9 = .ok (.aload_n 0, 1) := by decide +kernel
theorem dX0_recoverableIn_10 : decode cX0_recoverableIn 10 = .ok (.iload_n 1, 1) := by decide +kernel
theorem dX0_recoverableIn_11 : decode cX0_recoverableIn 11 = .ok (.invokevirtual 55, 3) := by decide +kernel
theorem dX0_recoverableIn_14 : decode cX0_recoverableIn 14 = .ok (.istore_n 3, 1) := by decide +kernel
theorem dX0_recoverableIn_15 : decode cX0_recoverableIn 15 = .ok (.iload_n 3, 1) := by decide +kernel
theorem dX0_recoverableIn_16 : decode cX0_recoverableIn 16 = .ok (.bipush 15, 2) := by decide +kernel
theorem dX0_recoverableIn_18 : decode cX0_recoverableIn 18 = .ok (.imul, 1) := by decide +kernel
theorem dX0_recoverableIn_19 : decode cX0_recoverableIn 19 = .ok (.bipush 100, 2) := by decide +kernel
theorem dX0_recoverableIn_21 : decode cX0_recoverableIn 21 = .ok (.idiv, 1) := by decide +kernel
theorem dX0_recoverableIn_22 : decode cX0_recoverableIn 22 = .ok (.istore 4, 2) := by decide +kernel
theorem dX0_recoverableIn_24 : decode cX0_recoverableIn 24 = .ok (.iconst 0, 1) := by decide +kernel
theorem dX0_recoverableIn_25 : decode cX0_recoverableIn 25 = .ok (.iload_n 3, 1) := by decide +kernel
theorem dX0_recoverableIn_26 : decode cX0_recoverableIn 26 = .ok (.aload_n 0, 1) := by decide +kernel
theorem dX0_recoverableIn_27 : decode cX0_recoverableIn 27 = .ok (.getfield 17, 3) := by decide +kernel
theorem dX0_recoverableIn_30 : decode cX0_recoverableIn 30 = .ok (.iconst 3, 1) := by decide +kernel
theorem dX0_recoverableIn_31 : decode cX0_recoverableIn 31 = .ok (.aaload, 1) := by decide +kernel
theorem dX0_recoverableIn_32 : decode cX0_recoverableIn 32 = .ok (.iload_n 1, 1) := by decide +kernel
theorem dX0_recoverableIn_33 : decode cX0_recoverableIn 33 = .ok (.iaload, 1) := by decide +kernel
theorem dX0_recoverableIn_34 : decode cX0_recoverableIn 34 = .ok (.iadd, 1) := by decide +kernel
theorem dX0_recoverableIn_35 : decode cX0_recoverableIn 35 = .ok (.sipush 25000, 3) := by decide +kernel
theorem dX0_recoverableIn_38 : decode cX0_recoverableIn 38 = .ok (.isub, 1) := by decide +kernel
theorem dX0_recoverableIn_39 : decode cX0_recoverableIn 39 = .ok (.invokestatic 40, 3) := by decide +kernel
theorem dX0_recoverableIn_42 : decode cX0_recoverableIn 42 = .ok (.istore 5, 2) := by decide +kernel
theorem dX0_recoverableIn_44 : decode cX0_recoverableIn 44 = .ok (.iload_n 2, 1) := by decide +kernel
theorem dX0_recoverableIn_45 : decode cX0_recoverableIn 45 = .ok (.iload 4, 2) := by decide +kernel
theorem dX0_recoverableIn_47 : decode cX0_recoverableIn 47 = .ok (.iload 5, 2) := by decide +kernel
theorem dX0_recoverableIn_49 : decode cX0_recoverableIn 49 = .ok (.invokestatic 34, 3) := by decide +kernel
theorem dX0_recoverableIn_52 : decode cX0_recoverableIn 52 = .ok (.invokestatic 34, 3) := by decide +kernel
theorem dX0_recoverableIn_55 : decode cX0_recoverableIn 55 = .ok (.ireturn, 1) := by decide +kernel
set_option maxRecDepth 20000 in
theorem ggX0_paymentIn_X0_unassessedBefore : GoodIn wsX0_paymentIn wsX0_unassessedBefore := goodIn_r _ [5, 6, 7, 8, 9, 10, 4, 11, 12, 13, 14, 15, 16, 17, 18, 19, 20, 21, 22, 23, 24, 25, 26, 27, 28, 29, 30, 31, 32, 33, 34, 49, 50, 51, 52, 53, 54, 55, 56, 57] (by decide +kernel) (by decide +kernel)
set_option maxRecDepth 20000 in
theorem gX0_paymentIn_X0_unassessedBefore : GoodIn wsX0_paymentIn (wsV RX0 65 RX0 yX0_unassessedBefore wsX0_unassessedBefore) := goodIn_app (goodIn_of _ (by decide +kernel)) ggX0_paymentIn_X0_unassessedBefore
set_option maxRecDepth 20000 in
theorem ggX0_paymentIn_X0_owedAfter : GoodIn wsX0_paymentIn wsX0_owedAfter := goodIn_r _ [38, 39, 27, 28, 21, 29, 49, 50, 51, 52, 53, 54, 55, 56, 57] (by decide +kernel) (by decide +kernel)
set_option maxRecDepth 20000 in
theorem gX0_paymentIn_X0_owedAfter : GoodIn wsX0_paymentIn (wsV RX0 68 RX0 yX0_owedAfter wsX0_owedAfter) := goodIn_app (goodIn_of _ (by decide +kernel)) ggX0_paymentIn_X0_owedAfter
set_option maxRecDepth 20000 in
theorem ggX0_paymentIn_X0_recoverableIn : GoodIn wsX0_paymentIn wsX0_recoverableIn := goodIn_r _ [43, 44, 12, 27, 28, 21, 29, 19, 20, 22, 8, 9, 10, 4, 11, 13, 14, 15, 16, 17, 18, 23, 24, 25, 26, 30, 31, 32, 33, 34, 49, 50, 51, 52, 53, 54, 55, 56, 57] (by decide +kernel) (by decide +kernel)
set_option maxRecDepth 20000 in
theorem gX0_paymentIn_X0_recoverableIn : GoodIn wsX0_paymentIn (wsV RX0 71 RX0 yX0_recoverableIn wsX0_recoverableIn) := goodIn_app (goodIn_of _ (by decide +kernel)) ggX0_paymentIn_X0_recoverableIn
set_option maxRecDepth 20000 in
theorem ggX0_paymentIn_X0_dueIn : GoodIn wsX0_paymentIn wsX0_dueIn := goodIn_r _ [11, 12, 13, 14, 15, 16, 4, 17, 18, 19, 20, 21, 22, 23, 24, 25, 26, 27, 28, 29, 30, 31, 32, 33, 34, 49, 50, 51, 52, 53, 54, 55, 56, 57] (by decide +kernel) (by decide +kernel)
set_option maxRecDepth 20000 in
theorem gX0_paymentIn_X0_dueIn : GoodIn wsX0_paymentIn (wsV RX0 55 RX0 yX0_dueIn wsX0_dueIn) := goodIn_app (goodIn_of _ (by decide +kernel)) ggX0_paymentIn_X0_dueIn
set_option maxRecDepth 20000 in
theorem ggX0_paymentIn_X0_arrearsOf : GoodIn wsX0_paymentIn wsX0_arrearsOf := goodIn_r _ [48, 39, 27, 28, 21, 29, 49, 50, 51, 52, 53, 54, 55, 56, 57] (by decide +kernel) (by decide +kernel)
set_option maxRecDepth 20000 in
theorem gX0_paymentIn_X0_arrearsOf : GoodIn wsX0_paymentIn (wsV RX0 74 RX0 yX0_arrearsOf wsX0_arrearsOf) := goodIn_app (goodIn_of _ (by decide +kernel)) ggX0_paymentIn_X0_arrearsOf
theorem dX0_paymentIn_0 : decode cX0_paymentIn 0 = .ok (.aload_n 0, 1) := by decide +kernel
theorem dX0_paymentIn_1 : decode cX0_paymentIn 1 = .ok (.iload_n 1, 1) := by decide +kernel
theorem dX0_paymentIn_2 : decode cX0_paymentIn 2 = .ok (.invokevirtual 65, 3) := by decide +kernel
theorem dX0_paymentIn_5 : decode cX0_paymentIn 5 = .ok (.istore_n 2, 1) := by decide +kernel
theorem dX0_paymentIn_6 : decode cX0_paymentIn 6 = .ok (.aload_n 0, 1) := by decide +kernel
theorem dX0_paymentIn_7 : decode cX0_paymentIn 7 = .ok (.iload_n 1, 1) := by decide +kernel
theorem dX0_paymentIn_8 : decode cX0_paymentIn 8 = .ok (.aload_n 0, 1) := by decide +kernel
theorem dX0_paymentIn_9 : decode cX0_paymentIn 9 = .ok (.iload_n 2, 1) := by decide +kernel
theorem dX0_paymentIn_10 : decode cX0_paymentIn 10 = .ok (.invokevirtual 68, 3) := by decide +kernel
theorem dX0_paymentIn_13 : decode cX0_paymentIn 13 = .ok (.invokevirtual 71, 3) := by decide +kernel
theorem dX0_paymentIn_16 : decode cX0_paymentIn 16 = .ok (.istore_n 3, 1) := by decide +kernel
theorem dX0_paymentIn_17 : decode cX0_paymentIn 17 = .ok (.aload_n 0, 1) := by decide +kernel
theorem dX0_paymentIn_18 : decode cX0_paymentIn 18 = .ok (.iload_n 1, 1) := by decide +kernel
theorem dX0_paymentIn_19 : decode cX0_paymentIn 19 = .ok (.invokevirtual 55, 3) := by decide +kernel
theorem dX0_paymentIn_22 : decode cX0_paymentIn 22 = .ok (.iload_n 3, 1) := by decide +kernel
theorem dX0_paymentIn_23 : decode cX0_paymentIn 23 = .ok (.isub, 1) := by decide +kernel
theorem dX0_paymentIn_24 : decode cX0_paymentIn 24 = .ok (.aload_n 0, 1) := by decide +kernel
theorem dX0_paymentIn_25 : decode cX0_paymentIn 25 = .ok (.iload_n 2, 1) := by decide +kernel
theorem dX0_paymentIn_26 : decode cX0_paymentIn 26 = .ok (.invokevirtual 74, 3) := by decide +kernel
theorem dX0_paymentIn_29 : decode cX0_paymentIn 29 = .ok (.iadd, 1) := by decide +kernel
theorem dX0_paymentIn_30 : decode cX0_paymentIn 30 = .ok (.ireturn, 1) := by decide +kernel
set_option maxRecDepth 20000 in
theorem ggX0_settle_X0_paymentIn : GoodIn wsX0_settle wsX0_paymentIn := goodIn_r _ [9, 10, 11, 12, 8, 13, 2, 3, 14, 15, 16, 17, 18, 19, 20, 21, 22, 23, 24, 25, 26, 27, 28, 29, 30, 31, 32, 33, 34, 35, 36, 37, 38, 39, 40, 41, 42, 43, 44, 1, 45, 46, 47, 48, 49, 50, 51, 52, 53, 59, 60, 61, 62, 63, 64, 65, 66, 67] (by decide +kernel) (by decide +kernel)
set_option maxRecDepth 20000 in
theorem gX0_settle_X0_paymentIn : GoodIn wsX0_settle (wsV RX0 77 RX0 yX0_paymentIn wsX0_paymentIn) := goodIn_app (goodIn_of _ (by decide +kernel)) ggX0_settle_X0_paymentIn
set_option maxRecDepth 20000 in
theorem ggX0_settle_X0_unassessedBefore : GoodIn wsX0_settle wsX0_unassessedBefore := goodIn_r _ [13, 2, 3, 14, 15, 16, 8, 17, 18, 19, 20, 21, 22, 23, 24, 25, 26, 27, 28, 29, 30, 31, 32, 33, 34, 35, 36, 37, 38, 39, 40, 59, 60, 61, 62, 63, 64, 65, 66, 67] (by decide +kernel) (by decide +kernel)
set_option maxRecDepth 20000 in
theorem gX0_settle_X0_unassessedBefore : GoodIn wsX0_settle (wsV RX0 65 RX0 yX0_unassessedBefore wsX0_unassessedBefore) := goodIn_app (goodIn_of _ (by decide +kernel)) ggX0_settle_X0_unassessedBefore
set_option maxRecDepth 20000 in
theorem ggX0_settle_X0_owedAfter : GoodIn wsX0_settle wsX0_owedAfter := goodIn_r _ [44, 1, 33, 34, 27, 35, 59, 60, 61, 62, 63, 64, 65, 66, 67] (by decide +kernel) (by decide +kernel)
set_option maxRecDepth 20000 in
theorem gX0_settle_X0_owedAfter : GoodIn wsX0_settle (wsV RX0 68 RX0 yX0_owedAfter wsX0_owedAfter) := goodIn_app (goodIn_of _ (by decide +kernel)) ggX0_settle_X0_owedAfter
set_option maxRecDepth 20000 in
theorem ggX0_settle_X0_recoverableIn : GoodIn wsX0_settle wsX0_recoverableIn := goodIn_r _ [48, 49, 18, 33, 34, 27, 35, 25, 26, 28, 14, 15, 16, 8, 17, 19, 20, 21, 22, 23, 24, 29, 30, 31, 32, 36, 37, 38, 39, 40, 59, 60, 61, 62, 63, 64, 65, 66, 67] (by decide +kernel) (by decide +kernel)
set_option maxRecDepth 20000 in
theorem gX0_settle_X0_recoverableIn : GoodIn wsX0_settle (wsV RX0 71 RX0 yX0_recoverableIn wsX0_recoverableIn) := goodIn_app (goodIn_of _ (by decide +kernel)) ggX0_settle_X0_recoverableIn
set_option maxRecDepth 20000 in
theorem ggX0_settle_X0_lowerDebt : GoodIn wsX0_settle wsX0_lowerDebt := goodIn_r _ [57, 1, 58, 59, 60, 61, 62, 63, 64, 65, 66, 67] (by decide +kernel) (by decide +kernel)
set_option maxRecDepth 20000 in
theorem gX0_settle_X0_lowerDebt : GoodIn wsX0_settle (wsV RX0 80 RX0 yX0_lowerDebt wsX0_lowerDebt) := goodIn_app (goodIn_of _ (by decide +kernel)) ggX0_settle_X0_lowerDebt
set_option maxRecDepth 20000 in
theorem ggX0_settle_X0_dueIn : GoodIn wsX0_settle wsX0_dueIn := goodIn_r _ [17, 18, 19, 20, 21, 22, 8, 23, 24, 25, 26, 27, 28, 29, 30, 31, 32, 33, 34, 35, 36, 37, 38, 39, 40, 59, 60, 61, 62, 63, 64, 65, 66, 67] (by decide +kernel) (by decide +kernel)
set_option maxRecDepth 20000 in
theorem gX0_settle_X0_dueIn : GoodIn wsX0_settle (wsV RX0 55 RX0 yX0_dueIn wsX0_dueIn) := goodIn_app (goodIn_of _ (by decide +kernel)) ggX0_settle_X0_dueIn
theorem dX0_settle_0 : decode cX0_settle 0 = .ok (.aload_n 0, 1) := by decide +kernel
theorem dX0_settle_1 : decode cX0_settle 1 = .ok (.iload_n 1, 1) := by decide +kernel
theorem dX0_settle_2 : decode cX0_settle 2 = .ok (.invokevirtual 77, 3) := by decide +kernel
theorem dX0_settle_5 : decode cX0_settle 5 = .ok (.istore_n 2, 1) := by decide +kernel
theorem dX0_settle_6 : decode cX0_settle 6 = .ok (.aload_n 0, 1) := by decide +kernel
theorem dX0_settle_7 : decode cX0_settle 7 = .ok (.aload_n 0, 1) := by decide +kernel
theorem dX0_settle_8 : decode cX0_settle 8 = .ok (.aload_n 0, 1) := by decide +kernel
theorem dX0_settle_9 : decode cX0_settle 9 = .ok (.iload_n 1, 1) := by decide +kernel
theorem dX0_settle_10 : decode cX0_settle 10 = .ok (.invokevirtual 65, 3) := by decide +kernel
theorem dX0_settle_13 : decode cX0_settle 13 = .ok (.invokevirtual 68, 3) := by decide +kernel
theorem dX0_settle_16 : decode cX0_settle 16 = .ok (.putfield 58, 3) := by decide +kernel
theorem dX0_settle_19 : decode cX0_settle 19 = .ok (.aload_n 0, 1) := by decide +kernel
theorem dX0_settle_20 : decode cX0_settle 20 = .ok (.aload_n 0, 1) := by decide +kernel
theorem dX0_settle_21 : decode cX0_settle 21 = .ok (.iload_n 1, 1) := by decide +kernel
theorem dX0_settle_22 : decode cX0_settle 22 = .ok (.aload_n 0, 1) := by decide +kernel
theorem dX0_settle_23 : decode cX0_settle 23 = .ok (.getfield 58, 3) := by decide +kernel
theorem dX0_settle_26 : decode cX0_settle 26 = .ok (.invokevirtual 71, 3) := by decide +kernel
theorem dX0_settle_29 : decode cX0_settle 29 = .ok (.invokevirtual 80, 3) := by decide +kernel
theorem dX0_settle_32 : decode cX0_settle 32 = .ok (.aload_n 0, 1) := by decide +kernel
theorem dX0_settle_33 : decode cX0_settle 33 = .ok (.getfield 9, 3) := by decide +kernel
theorem dX0_settle_36 : decode cX0_settle 36 = .ok (.istore_n 3, 1) := by decide +kernel
theorem dX0_settle_37 : decode cX0_settle 37 = .ok (.iload_n 3, 1) := by decide +kernel
theorem dX0_settle_38 : decode cX0_settle 38 = .ok (.iload_n 1, 1) := by decide +kernel
theorem dX0_settle_39 : decode cX0_settle 39 = .ok (.if_icmp .gt 20, 3) := by decide +kernel
theorem dX0_settle_42 : decode cX0_settle 42 = .ok (.aload_n 0, 1) := by decide +kernel
theorem dX0_settle_43 : decode cX0_settle 43 = .ok (.getfield 23, 3) := by decide +kernel
theorem dX0_settle_46 : decode cX0_settle 46 = .ok (.iload_n 3, 1) := by decide +kernel
theorem dX0_settle_47 : decode cX0_settle 47 = .ok (.aload_n 0, 1) := by decide +kernel
theorem dX0_settle_48 : decode cX0_settle 48 = .ok (.iload_n 3, 1) := by decide +kernel
theorem dX0_settle_49 : decode cX0_settle 49 = .ok (.invokevirtual 55, 3) := by decide +kernel
theorem dX0_settle_52 : decode cX0_settle 52 = .ok (.iastore, 1) := by decide +kernel
theorem dX0_settle_53 : decode cX0_settle 53 = .ok (.iinc 3 1, 3) := by decide +kernel
theorem dX0_settle_56 : decode cX0_settle 56 = .ok (.goto (-19), 3) := by decide +kernel
theorem dX0_settle_59 : decode cX0_settle 59 = .ok (.aload_n 0, 1) := by decide +kernel
theorem dX0_settle_60 : decode cX0_settle 60 = .ok (.getfield 27, 3) := by decide +kernel
theorem dX0_settle_63 : decode cX0_settle 63 = .ok (.iload_n 1, 1) := by decide +kernel
theorem dX0_settle_64 : decode cX0_settle 64 = .ok (.iload_n 2, 1) := by decide +kernel
theorem dX0_settle_65 : decode cX0_settle 65 = .ok (.iastore, 1) := by decide +kernel
theorem dX0_settle_66 : decode cX0_settle 66 = .ok (.iload_n 2, 1) := by decide +kernel
theorem dX0_settle_67 : decode cX0_settle 67 = .ok (.ireturn, 1) := by decide +kernel
theorem dX0_lowerDebt_0 : decode cX0_lowerDebt 0 = .ok (.aload_n 0, 1) := by decide +kernel
theorem dX0_lowerDebt_1 : decode cX0_lowerDebt 1 = .ok (.dup, 1) := by decide +kernel
theorem dX0_lowerDebt_2 : decode cX0_lowerDebt 2 = .ok (.getfield 58, 3) := by decide +kernel
theorem dX0_lowerDebt_5 : decode cX0_lowerDebt 5 = .ok (.iload_n 1, 1) := by decide +kernel
theorem dX0_lowerDebt_6 : decode cX0_lowerDebt 6 = .ok (.isub, 1) := by decide +kernel
theorem dX0_lowerDebt_7 : decode cX0_lowerDebt 7 = .ok (.putfield 58, 3) := by decide +kernel
theorem dX0_lowerDebt_10 : decode cX0_lowerDebt 10 = .ok (.aload_n 0, 1) := by decide +kernel
theorem dX0_lowerDebt_11 : decode cX0_lowerDebt 11 = .ok (.dup, 1) := by decide +kernel
theorem dX0_lowerDebt_12 : decode cX0_lowerDebt 12 = .ok (.getfield 84, 3) := by decide +kernel
theorem dX0_lowerDebt_15 : decode cX0_lowerDebt 15 = .ok (.iload_n 1, 1) := by decide +kernel
theorem dX0_lowerDebt_16 : decode cX0_lowerDebt 16 = .ok (.iadd, 1) := by decide +kernel
theorem dX0_lowerDebt_17 : decode cX0_lowerDebt 17 = .ok (.putfield 84, 3) := by decide +kernel
