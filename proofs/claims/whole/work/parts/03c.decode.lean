theorem dX0_init_0 : decode cX0_init 0 = .ok (.aload_n 0, 1) := by decide +kernel
theorem dX0_init_1 : decode cX0_init 1 = .ok (.invokespecial 3, 3) := by decide +kernel
theorem dX0_init_4 : decode cX0_init 4 = .ok (.aload_n 0, 1) := by decide +kernel
theorem dX0_init_5 : decode cX0_init 5 = .ok (.iload_n 1, 1) := by decide +kernel
theorem dX0_init_6 : decode cX0_init 6 = .ok (.putfield 9, 3) := by decide +kernel
theorem dX0_init_9 : decode cX0_init 9 = .ok (.aload_n 0, 1) := by decide +kernel
theorem dX0_init_10 : decode cX0_init 10 = .ok (.iconst 5, 1) := by decide +kernel
theorem dX0_init_11 : decode cX0_init 11 = .ok (.bipush 48, 2) := by decide +kernel
theorem dX0_init_13 : decode cX0_init 13 = .ok (.multianewarray 15 2, 4) := by decide +kernel
theorem dX0_init_17 : decode cX0_init 17 = .ok (.putfield 17, 3) := by decide +kernel
theorem dX0_init_20 : decode cX0_init 20 = .ok (.aload_n 0, 1) := by decide +kernel
theorem dX0_init_21 : decode cX0_init 21 = .ok (.iconst 5, 1) := by decide +kernel
theorem dX0_init_22 : decode cX0_init 22 = .ok (.bipush 48, 2) := by decide +kernel
theorem dX0_init_24 : decode cX0_init 24 = .ok (.multianewarray 15 2, 4) := by decide +kernel
theorem dX0_init_28 : decode cX0_init 28 = .ok (.putfield 20, 3) := by decide +kernel
theorem dX0_init_31 : decode cX0_init 31 = .ok (.aload_n 0, 1) := by decide +kernel
theorem dX0_init_32 : decode cX0_init 32 = .ok (.bipush 48, 2) := by decide +kernel
theorem dX0_init_34 : decode cX0_init 34 = .ok (.newarray .int, 2) := by decide +kernel
theorem dX0_init_36 : decode cX0_init 36 = .ok (.putfield 23, 3) := by decide +kernel
theorem dX0_init_39 : decode cX0_init 39 = .ok (.aload_n 0, 1) := by decide +kernel
theorem dX0_init_40 : decode cX0_init 40 = .ok (.bipush 48, 2) := by decide +kernel
theorem dX0_init_42 : decode cX0_init 42 = .ok (.newarray .int, 2) := by decide +kernel
theorem dX0_init_44 : decode cX0_init 44 = .ok (.putfield 27, 3) := by decide +kernel
theorem dX0_init_47 : decode cX0_init 47 = .ok (.iconst 0, 1) := by decide +kernel
theorem dX0_init_48 : decode cX0_init 48 = .ok (.istore_n 2, 1) := by decide +kernel
theorem dX0_init_49 : decode cX0_init 49 = .ok (.iload_n 2, 1) := by decide +kernel
theorem dX0_init_50 : decode cX0_init 50 = .ok (.bipush 48, 2) := by decide +kernel
theorem dX0_init_52 : decode cX0_init 52 = .ok (.if_icmp .ge 18, 3) := by decide +kernel
theorem dX0_init_55 : decode cX0_init 55 = .ok (.aload_n 0, 1) := by decide +kernel
theorem dX0_init_56 : decode cX0_init 56 = .ok (.getfield 17, 3) := by decide +kernel
theorem dX0_init_59 : decode cX0_init 59 = .ok (.iconst 0, 1) := by decide +kernel
theorem dX0_init_60 : decode cX0_init 60 = .ok (.aaload, 1) := by decide +kernel
theorem dX0_init_61 : decode cX0_init 61 = .ok (.iload_n 2, 1) := by decide +kernel
theorem dX0_init_62 : decode cX0_init 62 = .ok (.iconst 1, 1) := by decide +kernel
theorem dX0_init_63 : decode cX0_init 63 = .ok (.iastore, 1) := by decide +kernel
theorem dX0_init_64 : decode cX0_init 64 = .ok (.iinc 2 1, 3) := by decide +kernel
theorem dX0_init_67 : decode cX0_init 67 = .ok (.goto (-18), 3) := by decide +kernel
theorem dX0_init_70 : decode cX0_init 70 = .ok (.return_, 1) := by decide +kernel
theorem dX0_change_0 : decode cX0_change 0 = .ok (.aload_n 0, 1) := by decide +kernel
theorem dX0_change_1 : decode cX0_change 1 = .ok (.dup, 1) := by decide +kernel
theorem dX0_change_2 : decode cX0_change 2 = .ok (.getfield 30, 3) := by decide +kernel
theorem dX0_change_5 : decode cX0_change 5 = .ok (.iconst 1, 1) := by decide +kernel
theorem dX0_change_6 : decode cX0_change 6 = .ok (.iadd, 1) := by decide +kernel
theorem dX0_change_7 : decode cX0_change 7 = .ok (.putfield 30, 3) := by decide +kernel
theorem dX0_change_10 : decode cX0_change 10 = .ok (.iload_n 2, 1) := by decide +kernel
theorem dX0_change_11 : decode cX0_change 11 = .ok (.istore 4, 2) := by decide +kernel
theorem dX0_change_13 : decode cX0_change 13 = .ok (.iload 4, 2) := by decide +kernel
theorem dX0_change_15 : decode cX0_change 15 = .ok (.bipush 48, 2) := by decide +kernel
theorem dX0_change_17 : decode cX0_change 17 = .ok (.if_icmp .ge 42, 3) := by decide +kernel
theorem dX0_change_20 : decode cX0_change 20 = .ok (.aload_n 0, 1) := by decide +kernel
theorem dX0_change_21 : decode cX0_change 21 = .ok (.getfield 20, 3) := by decide +kernel
theorem dX0_change_24 : decode cX0_change 24 = .ok (.iload_n 1, 1) := by decide +kernel
theorem dX0_change_25 : decode cX0_change 25 = .ok (.aaload, 1) := by decide +kernel
theorem dX0_change_26 : decode cX0_change 26 = .ok (.iload 4, 2) := by decide +kernel
theorem dX0_change_28 : decode cX0_change 28 = .ok (.iaload, 1) := by decide +kernel
theorem dX0_change_29 : decode cX0_change 29 = .ok (.iload_n 2, 1) := by decide +kernel
theorem dX0_change_30 : decode cX0_change 30 = .ok (.if_icmp .gt 29, 3) := by decide +kernel
theorem dX0_change_33 : decode cX0_change 33 = .ok (.aload_n 0, 1) := by decide +kernel
theorem dX0_change_34 : decode cX0_change 34 = .ok (.getfield 17, 3) := by decide +kernel
theorem dX0_change_37 : decode cX0_change 37 = .ok (.iload_n 1, 1) := by decide +kernel
theorem dX0_change_38 : decode cX0_change 38 = .ok (.aaload, 1) := by decide +kernel
theorem dX0_change_39 : decode cX0_change 39 = .ok (.iload 4, 2) := by decide +kernel
theorem dX0_change_41 : decode cX0_change 41 = .ok (.iload_n 3, 1) := by decide +kernel
theorem dX0_change_42 : decode cX0_change 42 = .ok (.iastore, 1) := by decide +kernel
theorem dX0_change_43 : decode cX0_change 43 = .ok (.aload_n 0, 1) := by decide +kernel
theorem dX0_change_44 : decode cX0_change 44 = .ok (.getfield 20, 3) := by decide +kernel
theorem dX0_change_47 : decode cX0_change 47 = .ok (.iload_n 1, 1) := by decide +kernel
theorem dX0_change_48 : decode cX0_change 48 = .ok (.aaload, 1) := by decide +kernel
theorem dX0_change_49 : decode cX0_change 49 = .ok (.iload 4, 2) := by decide +kernel
theorem dX0_change_51 : decode cX0_change 51 = .ok (.iload_n 2, 1) := by decide +kernel
theorem dX0_change_52 : decode cX0_change 52 = .ok (.iastore, 1) := by decide +kernel
theorem dX0_change_53 : decode cX0_change 53 = .ok (.iinc 4 1, 3) := by decide +kernel
theorem dX0_change_56 : decode cX0_change 56 = .ok (.goto (-43), 3) := by decide +kernel
theorem dX0_change_59 : decode cX0_change 59 = .ok (.return_, 1) := by decide +kernel
theorem dX0_needIn_0 : decode cX0_needIn 0 = .ok (.sipush 30000, 3) := by decide +kernel
theorem dX0_needIn_3 : decode cX0_needIn 3 = .ok (.aload_n 0, 1) := by decide +kernel
theorem dX0_needIn_4 : decode cX0_needIn 4 = .ok (.getfield 17, 3) := by decide +kernel
theorem dX0_needIn_7 : decode cX0_needIn 7 = .ok (.iconst 1, 1) := by decide +kernel
theorem dX0_needIn_8 : decode cX0_needIn 8 = .ok (.aaload, 1) := by decide +kernel
theorem dX0_needIn_9 : decode cX0_needIn 9 = .ok (.iload_n 1, 1) := by decide +kernel
theorem dX0_needIn_10 : decode cX0_needIn 10 = .ok (.iaload, 1) := by decide +kernel
theorem dX0_needIn_11 : decode cX0_needIn 11 = .ok (.sipush 8000, 3) := by decide +kernel
theorem dX0_needIn_14 : decode cX0_needIn 14 = .ok (.imul, 1) := by decide +kernel
theorem dX0_needIn_15 : decode cX0_needIn 15 = .ok (.iadd, 1) := by decide +kernel
theorem dX0_needIn_16 : decode cX0_needIn 16 = .ok (.istore_n 2, 1) := by decide +kernel
theorem dX0_needIn_17 : decode cX0_needIn 17 = .ok (.aload_n 0, 1) := by decide +kernel
theorem dX0_needIn_18 : decode cX0_needIn 18 = .ok (.getfield 17, 3) := by decide +kernel
theorem dX0_needIn_21 : decode cX0_needIn 21 = .ok (.iconst 0, 1) := by decide +kernel
theorem dX0_needIn_22 : decode cX0_needIn 22 = .ok (.aaload, 1) := by decide +kernel
theorem dX0_needIn_23 : decode cX0_needIn 23 = .ok (.iload_n 1, 1) := by decide +kernel
theorem dX0_needIn_24 : decode cX0_needIn 24 = .ok (.iaload, 1) := by decide +kernel
theorem dX0_needIn_25 : decode cX0_needIn 25 = .ok (.iconst 1, 1) := by decide +kernel
theorem dX0_needIn_26 : decode cX0_needIn 26 = .ok (.if_icmp .le 9, 3) := by decide +kernel
theorem dX0_needIn_29 : decode cX0_needIn 29 = .ok (.iinc 2 12000, 6) := by decide +kernel
theorem dX0_needIn_35 : decode cX0_needIn 35 = .ok (.iload_n 2, 1) := by decide +kernel
theorem dX0_needIn_36 : decode cX0_needIn 36 = .ok (.aload_n 0, 1) := by decide +kernel
theorem dX0_needIn_37 : decode cX0_needIn 37 = .ok (.getfield 17, 3) := by decide +kernel
theorem dX0_needIn_40 : decode cX0_needIn 40 = .ok (.iconst 2, 1) := by decide +kernel
theorem dX0_needIn_41 : decode cX0_needIn 41 = .ok (.aaload, 1) := by decide +kernel
theorem dX0_needIn_42 : decode cX0_needIn 42 = .ok (.iload_n 1, 1) := by decide +kernel
theorem dX0_needIn_43 : decode cX0_needIn 43 = .ok (.iaload, 1) := by decide +kernel
theorem dX0_needIn_44 : decode cX0_needIn 44 = .ok (.ldc 33, 2) := by decide +kernel
theorem dX0_needIn_46 : decode cX0_needIn 46 = .ok (.invokestatic 34, 3) := by decide +kernel
theorem dX0_needIn_49 : decode cX0_needIn 49 = .ok (.iadd, 1) := by decide +kernel
theorem dX0_needIn_50 : decode cX0_needIn 50 = .ok (.ireturn, 1) := by decide +kernel
theorem dX0_taperIn_0 : decode cX0_taperIn 0 = .ok (.iconst 0, 1) := by decide +kernel
theorem dX0_taperIn_1 : decode cX0_taperIn 1 = .ok (.aload_n 0, 1) := by decide +kernel
theorem dX0_taperIn_2 : decode cX0_taperIn 2 = .ok (.getfield 17, 3) := by decide +kernel
theorem dX0_taperIn_5 : decode cX0_taperIn 5 = .ok (.iconst 3, 1) := by decide +kernel
theorem dX0_taperIn_6 : decode cX0_taperIn 6 = .ok (.aaload, 1) := by decide +kernel
theorem dX0_taperIn_7 : decode cX0_taperIn 7 = .ok (.iload_n 1, 1) := by decide +kernel
theorem dX0_taperIn_8 : decode cX0_taperIn 8 = .ok (.iaload, 1) := by decide +kernel
theorem dX0_taperIn_9 : decode cX0_taperIn 9 = .ok (.sipush 20000, 3) := by decide +kernel
theorem dX0_taperIn_12 : decode cX0_taperIn 12 = .ok (.isub, 1) := by decide +kernel
theorem dX0_taperIn_13 : decode cX0_taperIn 13 = .ok (.invokestatic 40, 3) := by decide +kernel
theorem dX0_taperIn_16 : decode cX0_taperIn 16 = .ok (.istore_n 2, 1) := by decide +kernel
theorem dX0_taperIn_17 : decode cX0_taperIn 17 = .ok (.iload_n 2, 1) := by decide +kernel
theorem dX0_taperIn_18 : decode cX0_taperIn 18 = .ok (.bipush 60, 2) := by decide +kernel
theorem dX0_taperIn_20 : decode cX0_taperIn 20 = .ok (.imul, 1) := by decide +kernel
theorem dX0_taperIn_21 : decode cX0_taperIn 21 = .ok (.bipush 100, 2) := by decide +kernel
theorem dX0_taperIn_23 : decode cX0_taperIn 23 = .ok (.idiv, 1) := by decide +kernel
theorem dX0_taperIn_24 : decode cX0_taperIn 24 = .ok (.ireturn, 1) := by decide +kernel
theorem dX0_tariffIn_0 : decode cX0_tariffIn 0 = .ok (.iconst 0, 1) := by decide +kernel
theorem dX0_tariffIn_1 : decode cX0_tariffIn 1 = .ok (.aload_n 0, 1) := by decide +kernel
theorem dX0_tariffIn_2 : decode cX0_tariffIn 2 = .ok (.getfield 17, 3) := by decide +kernel
theorem dX0_tariffIn_5 : decode cX0_tariffIn 5 = .ok (.iconst 4, 1) := by decide +kernel
theorem dX0_tariffIn_6 : decode cX0_tariffIn 6 = .ok (.aaload, 1) := by decide +kernel
theorem dX0_tariffIn_7 : decode cX0_tariffIn 7 = .ok (.iload_n 1, 1) := by decide +kernel
theorem dX0_tariffIn_8 : decode cX0_tariffIn 8 = .ok (.iaload, 1) := by decide +kernel
theorem dX0_tariffIn_9 : decode cX0_tariffIn 9 = .ok (.ldc 43, 2) := by decide +kernel
theorem dX0_tariffIn_11 : decode cX0_tariffIn 11 = .ok (.isub, 1) := by decide +kernel
theorem dX0_tariffIn_12 : decode cX0_tariffIn 12 = .ok (.invokestatic 40, 3) := by decide +kernel
theorem dX0_tariffIn_15 : decode cX0_tariffIn 15 = .ok (.istore_n 2, 1) := by decide +kernel
theorem dX0_tariffIn_16 : decode cX0_tariffIn 16 = .ok (.iload_n 2, 1) := by decide +kernel
theorem dX0_tariffIn_17 : decode cX0_tariffIn 17 = .ok (.sipush 25000, 3) := by decide +kernel
theorem dX0_tariffIn_20 : decode cX0_tariffIn 20 = .ok (.iadd, 1) := by decide +kernel
theorem dX0_tariffIn_21 : decode cX0_tariffIn 21 = .ok (.iconst 1, 1) := by decide +kernel
theorem dX0_tariffIn_22 : decode cX0_tariffIn 22 = .ok (.isub, 1) := by decide +kernel
theorem dX0_tariffIn_23 : decode cX0_tariffIn 23 = .ok (.sipush 25000, 3) := by decide +kernel
theorem dX0_tariffIn_26 : decode cX0_tariffIn 26 = .ok (.idiv, 1) := by decide +kernel
theorem dX0_tariffIn_27 : decode cX0_tariffIn 27 = .ok (.istore_n 3, 1) := by decide +kernel
theorem dX0_tariffIn_28 : decode cX0_tariffIn 28 = .ok (.iload_n 3, 1) := by decide +kernel
theorem dX0_tariffIn_29 : decode cX0_tariffIn 29 = .ok (.sipush 500, 3) := by decide +kernel
theorem dX0_tariffIn_32 : decode cX0_tariffIn 32 = .ok (.imul, 1) := by decide +kernel
theorem dX0_tariffIn_33 : decode cX0_tariffIn 33 = .ok (.ireturn, 1) := by decide +kernel
set_option maxRecDepth 20000 in
theorem ggX0_dueIn_X0_needIn : GoodIn wsX0_dueIn wsX0_needIn := goodIn_r _ [7, 1, 8, 9, 10, 11, 12, 25, 26, 27, 28, 29, 30, 31, 32, 33] (by decide +kernel) (by decide +kernel)
set_option maxRecDepth 20000 in
theorem gX0_dueIn_X0_needIn : GoodIn wsX0_dueIn (wsV RX0 45 RX0 yX0_needIn wsX0_needIn) := goodIn_app (goodIn_of _ (by decide +kernel)) ggX0_dueIn_X0_needIn
set_option maxRecDepth 20000 in
theorem ggX0_dueIn_X0_taperIn : GoodIn wsX0_dueIn wsX0_taperIn := goodIn_r _ [16, 1, 17, 18, 11, 19, 25, 26, 27, 28, 29, 30, 31, 32, 33] (by decide +kernel) (by decide +kernel)
set_option maxRecDepth 20000 in
theorem gX0_dueIn_X0_taperIn : GoodIn wsX0_dueIn (wsV RX0 49 RX0 yX0_taperIn wsX0_taperIn) := goodIn_app (goodIn_of _ (by decide +kernel)) ggX0_dueIn_X0_taperIn
set_option maxRecDepth 20000 in
theorem ggX0_dueIn_X0_tariffIn : GoodIn wsX0_dueIn wsX0_tariffIn := goodIn_r _ [23, 1, 24, 17, 18, 11, 19, 25, 26, 27, 28, 29, 30, 31, 32, 33] (by decide +kernel) (by decide +kernel)
set_option maxRecDepth 20000 in
theorem gX0_dueIn_X0_tariffIn : GoodIn wsX0_dueIn (wsV RX0 52 RX0 yX0_tariffIn wsX0_tariffIn) := goodIn_app (goodIn_of _ (by decide +kernel)) ggX0_dueIn_X0_tariffIn
theorem dX0_dueIn_0 : decode cX0_dueIn 0 = .ok (.aload_n 0, 1) := by decide +kernel
theorem dX0_dueIn_1 : decode cX0_dueIn 1 = .ok (.getfield 17, 3) := by decide +kernel
theorem dX0_dueIn_4 : decode cX0_dueIn 4 = .ok (.iconst 4, 1) := by decide +kernel
theorem dX0_dueIn_5 : decode cX0_dueIn 5 = .ok (.aaload, 1) := by decide +kernel
theorem dX0_dueIn_6 : decode cX0_dueIn 6 = .ok (.iload_n 1, 1) := by decide +kernel
theorem dX0_dueIn_7 : decode cX0_dueIn 7 = .ok (.iaload, 1) := by decide +kernel
theorem dX0_dueIn_8 : decode cX0_dueIn 8 = .ok (.ldc 44, 2) := by decide +kernel
theorem dX0_dueIn_10 : decode cX0_dueIn 10 = .ok (.if_icmp .le 5, 3) := by decide +kernel
theorem dX0_dueIn_13 : decode cX0_dueIn 13 = .ok (.iconst 0, 1) := by decide +kernel
theorem dX0_dueIn_14 : decode cX0_dueIn 14 = .ok (.ireturn, 1) := by decide +kernel
theorem dX0_dueIn_15 : decode cX0_dueIn 15 = .ok (.aload_n 0, 1) := by decide +kernel
theorem dX0_dueIn_16 : decode cX0_dueIn 16 = .ok (.iload_n 1, 1) := by decide +kernel
theorem dX0_dueIn_17 : decode cX0_dueIn 17 = .ok (.invokevirtual 45, 3) := by decide +kernel
theorem dX0_dueIn_20 : decode cX0_dueIn 20 = .ok (.aload_n 0, 1) := by decide +kernel
theorem dX0_dueIn_21 : decode cX0_dueIn 21 = .ok (.iload_n 1, 1) := by decide +kernel
theorem dX0_dueIn_22 : decode cX0_dueIn 22 = .ok (.invokevirtual 49, 3) := by decide +kernel
theorem dX0_dueIn_25 : decode cX0_dueIn 25 = .ok (.isub, 1) := by decide +kernel
theorem dX0_dueIn_26 : decode cX0_dueIn 26 = .ok (.aload_n 0, 1) := by decide +kernel
theorem dX0_dueIn_27 : decode cX0_dueIn 27 = .ok (.iload_n 1, 1) := by decide +kernel
theorem dX0_dueIn_28 : decode cX0_dueIn 28 = .ok (.invokevirtual 52, 3) := by decide +kernel
theorem dX0_dueIn_31 : decode cX0_dueIn 31 = .ok (.isub, 1) := by decide +kernel
theorem dX0_dueIn_32 : decode cX0_dueIn 32 = .ok (.istore_n 2, 1) := by decide +kernel
theorem dX0_dueIn_33 : decode cX0_dueIn 33 = .ok (.iload_n 2, 1) := by decide +kernel
theorem dX0_dueIn_34 : decode cX0_dueIn 34 = .ok (.sipush 500, 3) := by decide +kernel
theorem dX0_dueIn_37 : decode cX0_dueIn 37 = .ok (.if_icmp .ge 7, 3) := by decide +kernel
theorem dX0_dueIn_40 : decode cX0_dueIn 40 = .ok (.iconst 0, 1) := by decide +kernel
theorem dX0_dueIn_41 : decode cX0_dueIn 41 = .ok (.goto 4, 3) := by decide +kernel
theorem dX0_dueIn_44 : decode cX0_dueIn 44 = .ok (.iload_n 2, 1) := by decide +kernel
theorem dX0_dueIn_45 : decode cX0_dueIn 45 = .ok (.ireturn, 1) := by decide +kernel
set_option maxRecDepth 20000 in
theorem ggX0_unassessedBefore_X0_dueIn : GoodIn wsX0_unassessedBefore wsX0_dueIn := goodIn_r _ [7, 8, 9, 10, 11, 12, 6, 13, 14, 15, 16, 17, 18, 19, 20, 21, 22, 23, 24, 25, 26, 27, 28, 29, 30, 31, 32, 33, 34, 35, 36, 37, 38, 39] (by decide +kernel) (by decide +kernel)
set_option maxRecDepth 20000 in
theorem gX0_unassessedBefore_X0_dueIn : GoodIn wsX0_unassessedBefore (wsV RX0 55 RX0 yX0_dueIn wsX0_dueIn) := goodIn_app (goodIn_of _ (by decide +kernel)) ggX0_unassessedBefore_X0_dueIn
theorem dX0_unassessedBefore_0 : decode cX0_unassessedBefore 0 = .ok (.iconst 0, 1) := by decide +kernel
theorem dX0_unassessedBefore_1 : decode cX0_unassessedBefore 1 = .ok (.istore_n 2, 1) := by decide +kernel
theorem dX0_unassessedBefore_2 : decode cX0_unassessedBefore 2 = .ok (.aload_n 0, 1) := by decide +kernel
theorem dX0_unassessedBefore_3 : decode cX0_unassessedBefore 3 = .ok (.getfield 9, 3) := by decide +kernel
theorem dX0_unassessedBefore_6 : decode cX0_unassessedBefore 6 = .ok (.istore_n 3, 1) := by decide +kernel
theorem dX0_unassessedBefore_7 : decode cX0_unassessedBefore 7 = .ok (.iload_n 3, 1) := by decide +kernel
theorem dX0_unassessedBefore_8 : decode cX0_unassessedBefore 8 = .ok (.iload_n 1, 1) := by decide +kernel
theorem dX0_unassessedBefore_9 : decode cX0_unassessedBefore 9 = .ok (.if_icmp .ge 24, 3) := by decide +kernel
theorem dX0_unassessedBefore_12 : decode cX0_unassessedBefore 12 = .ok (.iload_n 2, 1) := by decide +kernel
theorem dX0_unassessedBefore_13 : decode cX0_unassessedBefore 13 = .ok (.aload_n 0, 1) := by decide +kernel
theorem dX0_unassessedBefore_14 : decode cX0_unassessedBefore 14 = .ok (.iload_n 3, 1) := by decide +kernel
theorem dX0_unassessedBefore_15 : decode cX0_unassessedBefore 15 = .ok (.invokevirtual 55, 3) := by decide +kernel
theorem dX0_unassessedBefore_18 : decode cX0_unassessedBefore 18 = .ok (.aload_n 0, 1) := by decide +kernel
theorem dX0_unassessedBefore_19 : decode cX0_unassessedBefore 19 = .ok (.getfield 23, 3) := by decide +kernel
theorem dX0_unassessedBefore_22 : decode cX0_unassessedBefore 22 = .ok (.iload_n 3, 1) := by decide +kernel
theorem dX0_unassessedBefore_23 : decode cX0_unassessedBefore 23 = .ok (.iaload, 1) := by decide +kernel
theorem dX0_unassessedBefore_24 : decode cX0_unassessedBefore 24 = .ok (.isub, 1) := by decide +kernel
theorem dX0_unassessedBefore_25 : decode cX0_unassessedBefore 25 = .ok (.iadd, 1) := by decide +kernel
theorem dX0_unassessedBefore_26 : decode cX0_unassessedBefore 26 = .ok (.istore_n 2, 1) := by decide +kernel
theorem dX0_unassessedBefore_27 : decode cX0_unassessedBefore 27 = .ok (.iinc 3 1, 3) := by decide +kernel
theorem dX0_unassessedBefore_30 : decode cX0_unassessedBefore 30 = .ok (.goto (-23), 3) := by decide +kernel
theorem dX0_unassessedBefore_33 : decode cX0_unassessedBefore 33 = .ok (.iload_n 2, 1) := by decide +kernel
theorem dX0_unassessedBefore_34 : decode cX0_unassessedBefore 34 = .ok (.ireturn, 1) := by decide +kernel
theorem dX0_owedAfter_0 : decode cX0_owedAfter 0 = .ok (.iconst 0, 1) := by decide +kernel
theorem dX0_owedAfter_1 : decode cX0_owedAfter 1 = .ok (.aload_n 0, 1) := by decide +kernel
theorem dX0_owedAfter_2 : decode cX0_owedAfter 2 = .ok (.getfield 58, 3) := by decide +kernel
theorem dX0_owedAfter_5 : decode cX0_owedAfter 5 = .ok (.iload_n 1, 1) := by decide +kernel
theorem dX0_owedAfter_6 : decode cX0_owedAfter 6 = .ok (.isub, 1) := by decide +kernel
theorem dX0_owedAfter_7 : decode cX0_owedAfter 7 = .ok (.invokestatic 40, 3) := by decide +kernel
theorem dX0_owedAfter_10 : decode cX0_owedAfter 10 = .ok (.ireturn, 1) := by decide +kernel
theorem dX0_arrearsOf_0 : decode cX0_arrearsOf 0 = .ok (.iconst 0, 1) := by decide +kernel
theorem dX0_arrearsOf_1 : decode cX0_arrearsOf 1 = .ok (.iload_n 1, 1) := by decide +kernel
theorem dX0_arrearsOf_2 : decode cX0_arrearsOf 2 = .ok (.aload_n 0, 1) := by decide +kernel
theorem dX0_arrearsOf_3 : decode cX0_arrearsOf 3 = .ok (.getfield 58, 3) := by decide +kernel
theorem dX0_arrearsOf_6 : decode cX0_arrearsOf 6 = .ok (.isub, 1) := by decide +kernel
theorem dX0_arrearsOf_7 : decode cX0_arrearsOf 7 = .ok (.invokestatic 40, 3) := by decide +kernel
theorem dX0_arrearsOf_10 : decode cX0_arrearsOf 10 = .ok (.ireturn, 1) := by decide +kernel
set_option maxRecDepth 20000 in
theorem ggX0_recoverableIn_X0_dueIn : GoodIn wsX0_recoverableIn wsX0_dueIn := goodIn_r _ [14, 2, 15, 16, 17, 18, 13, 19, 20, 7, 8, 5, 9, 21, 22, 23, 24, 3, 4, 6, 25, 26, 27, 28, 29, 30, 31, 32, 33, 34, 35, 36, 37, 38] (by decide +kernel) (by decide +kernel)
set_option maxRecDepth 20000 in
theorem gX0_recoverableIn_X0_dueIn : GoodIn wsX0_recoverableIn (wsV RX0 55 RX0 yX0_dueIn wsX0_dueIn) := goodIn_app (goodIn_of _ (by decide +kernel)) ggX0_recoverableIn_X0_dueIn
theorem dX0_recoverableIn_0 : decode cX0_recoverableIn 0 = .ok (.aload_n 0, 1) := by decide +kernel
theorem dX0_recoverableIn_1 : decode cX0_recoverableIn 1 = .ok (.getfield 61, 3) := by decide +kernel
theorem dX0_recoverableIn_4 : decode cX0_recoverableIn 4 = .ok (.ifCond .eq 5, 3) := by decide +kernel
theorem dX0_recoverableIn_7 : decode cX0_recoverableIn 7 = .ok (.iconst 0, 1) := by decide +kernel
theorem dX0_recoverableIn_8 : decode cX0_recoverableIn 8 = .ok (.ireturn, 1) := by decide +kernel
theorem dX0_recoverableIn_9 : decode cX0_recoverableIn 9 = .ok (.aload_n 0, 1) := by decide +kernel
theorem dX0_recoverableIn_10 : decode cX0_recoverableIn 10 = .ok (.iload_n 1, 1) := by decide +kernel
theorem dX0_recoverableIn_11 : decode cX0_recoverableIn 11 = .ok (.invokevirtual 55, 3) := by decide +kernel
theorem dX0_recoverableIn_14 : decode cX0_recoverableIn 14 = .ok (.istore_n 3, 1) := by decide +kernel
theorem dX0_recoverableIn_15 : decode cX0_recoverableIn 15 = .ok (.iload_n 3, 1) := by decide +kernel
theorem dX0_recoverableIn_16 : decode cX0_recoverableIn 16 = .ok (.bipush 15, 2) := by decide +kernel
theorem dX0_recoverableIn_18 : decode cX0_recoverableIn 18 = .ok (.imul, 1) := by decide +kernel
theorem dX0_recoverableIn_19 : decode cX0_recoverableIn 19 = .ok (.bipush 100, 2) := by decide +kernel
theorem dX0_recoverableIn_21 : decode cX0_recoverableIn 21 = .ok (.idiv, 1) := by decide +kernel
theorem dX0_recoverableIn_22 : decode cX0_recoverableIn 22 = .ok (.istore 4, 2) := by decide +kernel
theorem dX0_recoverableIn_24 : decode cX0_recoverableIn 24 = .ok (.iconst 0, 1) := by decide +kernel
theorem dX0_recoverableIn_25 : decode cX0_recoverableIn 25 = .ok (.iload_n 3, 1) := by decide +kernel
theorem dX0_recoverableIn_26 : decode cX0_recoverableIn 26 = .ok (.aload_n 0, 1) := by decide +kernel
theorem dX0_recoverableIn_27 : decode cX0_recoverableIn 27 = .ok (.getfield 17, 3) := by decide +kernel
theorem dX0_recoverableIn_30 : decode cX0_recoverableIn 30 = .ok (.iconst 3, 1) := by decide +kernel
theorem dX0_recoverableIn_31 : decode cX0_recoverableIn 31 = .ok (.aaload, 1) := by decide +kernel
theorem dX0_recoverableIn_32 : decode cX0_recoverableIn 32 = .ok (.iload_n 1, 1) := by decide +kernel
theorem dX0_recoverableIn_33 : decode cX0_recoverableIn 33 = .ok (.iaload, 1) := by decide +kernel
theorem dX0_recoverableIn_34 : decode cX0_recoverableIn 34 = .ok (.iadd, 1) := by decide +kernel
theorem dX0_recoverableIn_35 : decode cX0_recoverableIn 35 = .ok (.sipush 25000, 3) := by decide +kernel
theorem dX0_recoverableIn_38 : decode cX0_recoverableIn 38 = .ok (.isub, 1) := by decide +kernel
theorem dX0_recoverableIn_39 : decode cX0_recoverableIn 39 = .ok (.invokestatic 40, 3) := by decide +kernel
theorem dX0_recoverableIn_42 : decode cX0_recoverableIn 42 = .ok (.istore 5, 2) := by decide +kernel
theorem dX0_recoverableIn_44 : decode cX0_recoverableIn 44 = .ok (.iload_n 2, 1) := by decide +kernel
theorem dX0_recoverableIn_45 : decode cX0_recoverableIn 45 = .ok (.iload 4, 2) := by decide +kernel
theorem dX0_recoverableIn_47 : decode cX0_recoverableIn 47 = .ok (.iload 5, 2) := by decide +kernel
theorem dX0_recoverableIn_49 : decode cX0_recoverableIn 49 = .ok (.invokestatic 34, 3) := by decide +kernel
theorem dX0_recoverableIn_52 : decode cX0_recoverableIn 52 = .ok (.invokestatic 34, 3) := by decide +kernel
theorem dX0_recoverableIn_55 : decode cX0_recoverableIn 55 = .ok (.ireturn, 1) := by decide +kernel
set_option maxRecDepth 20000 in
theorem ggX0_paymentIn_X0_unassessedBefore : GoodIn wsX0_paymentIn wsX0_unassessedBefore := goodIn_r _ [5, 6, 7, 8, 9, 10, 4, 11, 12, 13, 14, 15, 16, 17, 18, 19, 20, 21, 22, 23, 24, 25, 26, 27, 28, 29, 30, 31, 32, 33, 34, 49, 50, 51, 52, 53, 54, 55, 56, 57] (by decide +kernel) (by decide +kernel)
set_option maxRecDepth 20000 in
theorem gX0_paymentIn_X0_unassessedBefore : GoodIn wsX0_paymentIn (wsV RX0 65 RX0 yX0_unassessedBefore wsX0_unassessedBefore) := goodIn_app (goodIn_of _ (by decide +kernel)) ggX0_paymentIn_X0_unassessedBefore
set_option maxRecDepth 20000 in
theorem ggX0_paymentIn_X0_owedAfter : GoodIn wsX0_paymentIn wsX0_owedAfter := goodIn_r _ [38, 39, 27, 28, 21, 29, 49, 50, 51, 52, 53, 54, 55, 56, 57] (by decide +kernel) (by decide +kernel)
set_option maxRecDepth 20000 in
theorem gX0_paymentIn_X0_owedAfter : GoodIn wsX0_paymentIn (wsV RX0 68 RX0 yX0_owedAfter wsX0_owedAfter) := goodIn_app (goodIn_of _ (by decide +kernel)) ggX0_paymentIn_X0_owedAfter
set_option maxRecDepth 20000 in
theorem ggX0_paymentIn_X0_recoverableIn : GoodIn wsX0_paymentIn wsX0_recoverableIn := goodIn_r _ [43, 44, 12, 27, 28, 21, 29, 19, 20, 22, 8, 9, 10, 4, 11, 13, 14, 15, 16, 17, 18, 23, 24, 25, 26, 30, 31, 32, 33, 34, 49, 50, 51, 52, 53, 54, 55, 56, 57] (by decide +kernel) (by decide +kernel)
set_option maxRecDepth 20000 in
theorem gX0_paymentIn_X0_recoverableIn : GoodIn wsX0_paymentIn (wsV RX0 71 RX0 yX0_recoverableIn wsX0_recoverableIn) := goodIn_app (goodIn_of _ (by decide +kernel)) ggX0_paymentIn_X0_recoverableIn
set_option maxRecDepth 20000 in
theorem ggX0_paymentIn_X0_dueIn : GoodIn wsX0_paymentIn wsX0_dueIn := goodIn_r _ [11, 12, 13, 14, 15, 16, 4, 17, 18, 19, 20, 21, 22, 23, 24, 25, 26, 27, 28, 29, 30, 31, 32, 33, 34, 49, 50, 51, 52, 53, 54, 55, 56, 57] (by decide +kernel) (by decide +kernel)
set_option maxRecDepth 20000 in
theorem gX0_paymentIn_X0_dueIn : GoodIn wsX0_paymentIn (wsV RX0 55 RX0 yX0_dueIn wsX0_dueIn) := goodIn_app (goodIn_of _ (by decide +kernel)) ggX0_paymentIn_X0_dueIn
set_option maxRecDepth 20000 in
theorem ggX0_paymentIn_X0_arrearsOf : GoodIn wsX0_paymentIn wsX0_arrearsOf := goodIn_r _ [48, 39, 27, 28, 21, 29, 49, 50, 51, 52, 53, 54, 55, 56, 57] (by decide +kernel) (by decide +kernel)
set_option maxRecDepth 20000 in
theorem gX0_paymentIn_X0_arrearsOf : GoodIn wsX0_paymentIn (wsV RX0 74 RX0 yX0_arrearsOf wsX0_arrearsOf) := goodIn_app (goodIn_of _ (by decide +kernel)) ggX0_paymentIn_X0_arrearsOf
theorem dX0_paymentIn_0 : decode cX0_paymentIn 0 = .ok (.aload_n 0, 1) := by decide +kernel
theorem dX0_paymentIn_1 : decode cX0_paymentIn 1 = .ok (.iload_n 1, 1) := by decide +kernel
theorem dX0_paymentIn_2 : decode cX0_paymentIn 2 = .ok (.invokevirtual 65, 3) := by decide +kernel
theorem dX0_paymentIn_5 : decode cX0_paymentIn 5 = .ok (.istore_n 2, 1) := by decide +kernel
theorem dX0_paymentIn_6 : decode cX0_paymentIn 6 = .ok (.aload_n 0, 1) := by decide +kernel
theorem dX0_paymentIn_7 : decode cX0_paymentIn 7 = .ok (.iload_n 1, 1) := by decide +kernel
theorem dX0_paymentIn_8 : decode cX0_paymentIn 8 = .ok (.aload_n 0, 1) := by decide +kernel
theorem dX0_paymentIn_9 : decode cX0_paymentIn 9 = .ok (.iload_n 2, 1) := by decide +kernel
theorem dX0_paymentIn_10 : decode cX0_paymentIn 10 = .ok (.invokevirtual 68, 3) := by decide +kernel
theorem dX0_paymentIn_13 : decode cX0_paymentIn 13 = .ok (.invokevirtual 71, 3) := by decide +kernel
theorem dX0_paymentIn_16 : decode cX0_paymentIn 16 = .ok (.istore_n 3, 1) := by decide +kernel
theorem dX0_paymentIn_17 : decode cX0_paymentIn 17 = .ok (.aload_n 0, 1) := by decide +kernel
theorem dX0_paymentIn_18 : decode cX0_paymentIn 18 = .ok (.iload_n 1, 1) := by decide +kernel
theorem dX0_paymentIn_19 : decode cX0_paymentIn 19 = .ok (.invokevirtual 55, 3) := by decide +kernel
theorem dX0_paymentIn_22 : decode cX0_paymentIn 22 = .ok (.iload_n 3, 1) := by decide +kernel
theorem dX0_paymentIn_23 : decode cX0_paymentIn 23 = .ok (.isub, 1) := by decide +kernel
theorem dX0_paymentIn_24 : decode cX0_paymentIn 24 = .ok (.aload_n 0, 1) := by decide +kernel
theorem dX0_paymentIn_25 : decode cX0_paymentIn 25 = .ok (.iload_n 2, 1) := by decide +kernel
theorem dX0_paymentIn_26 : decode cX0_paymentIn 26 = .ok (.invokevirtual 74, 3) := by decide +kernel
theorem dX0_paymentIn_29 : decode cX0_paymentIn 29 = .ok (.iadd, 1) := by decide +kernel
theorem dX0_paymentIn_30 : decode cX0_paymentIn 30 = .ok (.ireturn, 1) := by decide +kernel
set_option maxRecDepth 20000 in
theorem ggX0_settle_X0_paymentIn : GoodIn wsX0_settle wsX0_paymentIn := goodIn_r _ [9, 10, 11, 12, 8, 13, 2, 3, 14, 15, 16, 17, 18, 19, 20, 21, 22, 23, 24, 25, 26, 27, 28, 29, 30, 31, 32, 33, 34, 35, 36, 37, 38, 39, 40, 41, 42, 43, 44, 1, 45, 46, 47, 48, 49, 50, 51, 52, 53, 59, 60, 61, 62, 63, 64, 65, 66, 67] (by decide +kernel) (by decide +kernel)
set_option maxRecDepth 20000 in
theorem gX0_settle_X0_paymentIn : GoodIn wsX0_settle (wsV RX0 77 RX0 yX0_paymentIn wsX0_paymentIn) := goodIn_app (goodIn_of _ (by decide +kernel)) ggX0_settle_X0_paymentIn
set_option maxRecDepth 20000 in
theorem ggX0_settle_X0_unassessedBefore : GoodIn wsX0_settle wsX0_unassessedBefore := goodIn_r _ [13, 2, 3, 14, 15, 16, 8, 17, 18, 19, 20, 21, 22, 23, 24, 25, 26, 27, 28, 29, 30, 31, 32, 33, 34, 35, 36, 37, 38, 39, 40, 59, 60, 61, 62, 63, 64, 65, 66, 67] (by decide +kernel) (by decide +kernel)
set_option maxRecDepth 20000 in
theorem gX0_settle_X0_unassessedBefore : GoodIn wsX0_settle (wsV RX0 65 RX0 yX0_unassessedBefore wsX0_unassessedBefore) := goodIn_app (goodIn_of _ (by decide +kernel)) ggX0_settle_X0_unassessedBefore
set_option maxRecDepth 20000 in
theorem ggX0_settle_X0_owedAfter : GoodIn wsX0_settle wsX0_owedAfter := goodIn_r _ [44, 1, 33, 34, 27, 35, 59, 60, 61, 62, 63, 64, 65, 66, 67] (by decide +kernel) (by decide +kernel)
set_option maxRecDepth 20000 in
theorem gX0_settle_X0_owedAfter : GoodIn wsX0_settle (wsV RX0 68 RX0 yX0_owedAfter wsX0_owedAfter) := goodIn_app (goodIn_of _ (by decide +kernel)) ggX0_settle_X0_owedAfter
set_option maxRecDepth 20000 in
theorem ggX0_settle_X0_recoverableIn : GoodIn wsX0_settle wsX0_recoverableIn := goodIn_r _ [48, 49, 18, 33, 34, 27, 35, 25, 26, 28, 14, 15, 16, 8, 17, 19, 20, 21, 22, 23, 24, 29, 30, 31, 32, 36, 37, 38, 39, 40, 59, 60, 61, 62, 63, 64, 65, 66, 67] (by decide +kernel) (by decide +kernel)
set_option maxRecDepth 20000 in
theorem gX0_settle_X0_recoverableIn : GoodIn wsX0_settle (wsV RX0 71 RX0 yX0_recoverableIn wsX0_recoverableIn) := goodIn_app (goodIn_of _ (by decide +kernel)) ggX0_settle_X0_recoverableIn
set_option maxRecDepth 20000 in
theorem ggX0_settle_X0_lowerDebt : GoodIn wsX0_settle wsX0_lowerDebt := goodIn_r _ [57, 1, 58, 59, 60, 61, 62, 63, 64, 65, 66, 67] (by decide +kernel) (by decide +kernel)
set_option maxRecDepth 20000 in
theorem gX0_settle_X0_lowerDebt : GoodIn wsX0_settle (wsV RX0 80 RX0 yX0_lowerDebt wsX0_lowerDebt) := goodIn_app (goodIn_of _ (by decide +kernel)) ggX0_settle_X0_lowerDebt
set_option maxRecDepth 20000 in
theorem ggX0_settle_X0_dueIn : GoodIn wsX0_settle wsX0_dueIn := goodIn_r _ [17, 18, 19, 20, 21, 22, 8, 23, 24, 25, 26, 27, 28, 29, 30, 31, 32, 33, 34, 35, 36, 37, 38, 39, 40, 59, 60, 61, 62, 63, 64, 65, 66, 67] (by decide +kernel) (by decide +kernel)
set_option maxRecDepth 20000 in
theorem gX0_settle_X0_dueIn : GoodIn wsX0_settle (wsV RX0 55 RX0 yX0_dueIn wsX0_dueIn) := goodIn_app (goodIn_of _ (by decide +kernel)) ggX0_settle_X0_dueIn
theorem dX0_settle_0 : decode cX0_settle 0 = .ok (.aload_n 0, 1) := by decide +kernel
theorem dX0_settle_1 : decode cX0_settle 1 = .ok (.iload_n 1, 1) := by decide +kernel
theorem dX0_settle_2 : decode cX0_settle 2 = .ok (.invokevirtual 77, 3) := by decide +kernel
theorem dX0_settle_5 : decode cX0_settle 5 = .ok (.istore_n 2, 1) := by decide +kernel
theorem dX0_settle_6 : decode cX0_settle 6 = .ok (.aload_n 0, 1) := by decide +kernel
theorem dX0_settle_7 : decode cX0_settle 7 = .ok (.aload_n 0, 1) := by decide +kernel
theorem dX0_settle_8 : decode cX0_settle 8 = .ok (.aload_n 0, 1) := by decide +kernel
theorem dX0_settle_9 : decode cX0_settle 9 = .ok (.iload_n 1, 1) := by decide +kernel
theorem dX0_settle_10 : decode cX0_settle 10 = .ok (.invokevirtual 65, 3) := by decide +kernel
theorem dX0_settle_13 : decode cX0_settle 13 = .ok (.invokevirtual 68, 3) := by decide +kernel
theorem dX0_settle_16 : decode cX0_settle 16 = .ok (.putfield 58, 3) := by decide +kernel
theorem dX0_settle_19 : decode cX0_settle 19 = .ok (.aload_n 0, 1) := by decide +kernel
theorem dX0_settle_20 : decode cX0_settle 20 = .ok (.aload_n 0, 1) := by decide +kernel
theorem dX0_settle_21 : decode cX0_settle 21 = .ok (.iload_n 1, 1) := by decide +kernel
theorem dX0_settle_22 : decode cX0_settle 22 = .ok (.aload_n 0, 1) := by decide +kernel
theorem dX0_settle_23 : decode cX0_settle 23 = .ok (.getfield 58, 3) := by decide +kernel
theorem dX0_settle_26 : decode cX0_settle 26 = .ok (.invokevirtual 71, 3) := by decide +kernel
theorem dX0_settle_29 : decode cX0_settle 29 = .ok (.invokevirtual 80, 3) := by decide +kernel
theorem dX0_settle_32 : decode cX0_settle 32 = .ok (.aload_n 0, 1) := by decide +kernel
theorem dX0_settle_33 : decode cX0_settle 33 = .ok (.getfield 9, 3) := by decide +kernel
theorem dX0_settle_36 : decode cX0_settle 36 = .ok (.istore_n 3, 1) := by decide +kernel
theorem dX0_settle_37 : decode cX0_settle 37 = .ok (.iload_n 3, 1) := by decide +kernel
theorem dX0_settle_38 : decode cX0_settle 38 = .ok (.iload_n 1, 1) := by decide +kernel
theorem dX0_settle_39 : decode cX0_settle 39 = .ok (.if_icmp .gt 20, 3) := by decide +kernel
theorem dX0_settle_42 : decode cX0_settle 42 = .ok (.aload_n 0, 1) := by decide +kernel
theorem dX0_settle_43 : decode cX0_settle 43 = .ok (.getfield 23, 3) := by decide +kernel
theorem dX0_settle_46 : decode cX0_settle 46 = .ok (.iload_n 3, 1) := by decide +kernel
theorem dX0_settle_47 : decode cX0_settle 47 = .ok (.aload_n 0, 1) := by decide +kernel
theorem dX0_settle_48 : decode cX0_settle 48 = .ok (.iload_n 3, 1) := by decide +kernel
theorem dX0_settle_49 : decode cX0_settle 49 = .ok (.invokevirtual 55, 3) := by decide +kernel
theorem dX0_settle_52 : decode cX0_settle 52 = .ok (.iastore, 1) := by decide +kernel
theorem dX0_settle_53 : decode cX0_settle 53 = .ok (.iinc 3 1, 3) := by decide +kernel
theorem dX0_settle_56 : decode cX0_settle 56 = .ok (.goto (-19), 3) := by decide +kernel
theorem dX0_settle_59 : decode cX0_settle 59 = .ok (.aload_n 0, 1) := by decide +kernel
theorem dX0_settle_60 : decode cX0_settle 60 = .ok (.getfield 27, 3) := by decide +kernel
theorem dX0_settle_63 : decode cX0_settle 63 = .ok (.iload_n 1, 1) := by decide +kernel
theorem dX0_settle_64 : decode cX0_settle 64 = .ok (.iload_n 2, 1) := by decide +kernel
theorem dX0_settle_65 : decode cX0_settle 65 = .ok (.iastore, 1) := by decide +kernel
theorem dX0_settle_66 : decode cX0_settle 66 = .ok (.iload_n 2, 1) := by decide +kernel
theorem dX0_settle_67 : decode cX0_settle 67 = .ok (.ireturn, 1) := by decide +kernel
theorem dX0_lowerDebt_0 : decode cX0_lowerDebt 0 = .ok (.aload_n 0, 1) := by decide +kernel
theorem dX0_lowerDebt_1 : decode cX0_lowerDebt 1 = .ok (.dup, 1) := by decide +kernel
theorem dX0_lowerDebt_2 : decode cX0_lowerDebt 2 = .ok (.getfield 58, 3) := by decide +kernel
theorem dX0_lowerDebt_5 : decode cX0_lowerDebt 5 = .ok (.iload_n 1, 1) := by decide +kernel
theorem dX0_lowerDebt_6 : decode cX0_lowerDebt 6 = .ok (.isub, 1) := by decide +kernel
theorem dX0_lowerDebt_7 : decode cX0_lowerDebt 7 = .ok (.putfield 58, 3) := by decide +kernel
theorem dX0_lowerDebt_10 : decode cX0_lowerDebt 10 = .ok (.aload_n 0, 1) := by decide +kernel
theorem dX0_lowerDebt_11 : decode cX0_lowerDebt 11 = .ok (.dup, 1) := by decide +kernel
theorem dX0_lowerDebt_12 : decode cX0_lowerDebt 12 = .ok (.getfield 84, 3) := by decide +kernel
theorem dX0_lowerDebt_15 : decode cX0_lowerDebt 15 = .ok (.iload_n 1, 1) := by decide +kernel
theorem dX0_lowerDebt_16 : decode cX0_lowerDebt 16 = .ok (.iadd, 1) := by decide +kernel
theorem dX0_lowerDebt_17 : decode cX0_lowerDebt 17 = .ok (.putfield 84, 3) := by decide +kernel
theorem dX0_lowerDebt_20 : decode cX0_lowerDebt 20 = .ok (.return_, 1) := by decide +kernel
theorem dX1_init_0 : decode cX1_init 0 = .ok (.aload_n 0, 1) := by decide +kernel
theorem dX1_init_1 : decode cX1_init 1 = .ok (.invokespecial 1, 3) := by decide +kernel
theorem dX1_init_4 : decode cX1_init 4 = .ok (.aload_n 0, 1) := by decide +kernel
theorem dX1_init_5 : decode cX1_init 5 = .ok (.bipush 6, 2) := by decide +kernel
theorem dX1_init_7 : decode cX1_init 7 = .ok (.anewarray 9, 3) := by decide +kernel
theorem dX1_init_10 : decode cX1_init 10 = .ok (.putfield 11, 3) := by decide +kernel
theorem dX1_init_13 : decode cX1_init 13 = .ok (.aload_n 0, 1) := by decide +kernel
theorem dX1_init_14 : decode cX1_init 14 = .ok (.iconst 0, 1) := by decide +kernel
theorem dX1_init_15 : decode cX1_init 15 = .ok (.putfield 15, 3) := by decide +kernel
theorem dX1_init_18 : decode cX1_init 18 = .ok (.aload_n 0, 1) := by decide +kernel
theorem dX1_init_19 : decode cX1_init 19 = .ok (.iconst 0, 1) := by decide +kernel
theorem dX1_init_20 : decode cX1_init 20 = .ok (.putfield 19, 3) := by decide +kernel
theorem dX1_init_23 : decode cX1_init 23 = .ok (.return_, 1) := by decide +kernel
set_option maxRecDepth 20000 in
theorem ggX1_add_X0_init : GoodIn wsX1_add wsX0_init := goodIn_r _ [10, 11, 12, 13, 14, 15, 16, 17, 18, 19, 20, 24, 25, 26, 27, 28, 29, 30, 31, 32] (by decide +kernel) (by decide +kernel)
set_option maxRecDepth 20000 in
theorem gX1_add_X0_init_n31 : GoodIn wsX1_add (wsX0_init) := ggX1_add_X0_init
theorem dX1_add_0 : decode cX1_add 0 = .ok (.aload_n 0, 1) := by decide +kernel
theorem dX1_add_1 : decode cX1_add 1 = .ok (.getfield 15, 3) := by decide +kernel
theorem dX1_add_4 : decode cX1_add 4 = .ok (.ifCond .lt 15, 3) := by decide +kernel
theorem dX1_add_7 : decode cX1_add 7 = .ok (.aload_n 0, 1) := by decide +kernel
theorem dX1_add_8 : decode cX1_add 8 = .ok (.getfield 15, 3) := by decide +kernel
theorem dX1_add_11 : decode cX1_add 11 = .ok (.aload_n 0, 1) := by decide +kernel
theorem dX1_add_12 : decode cX1_add 12 = .ok (.getfield 11, 3) := by decide +kernel
theorem dX1_add_15 : decode cX1_add 15 = .ok (.arraylength, 1) := by decide +kernel
theorem dX1_add_16 : decode cX1_add 16 = .ok (.if_icmp .lt 13, 3) := by decide +kernel
theorem dX1_add_19 : decode cX1_add 19 = .ok (.new 22, 3) := by decide +kernel
theorem dX1_add_22 : decode cX1_add 22 = .ok (.dup, 1) := by decide +kernel
theorem dX1_add_23 : decode cX1_add 23 = .ok (.ldc 24, 2) := by decide +kernel
theorem dX1_add_25 : decode cX1_add 25 = .ok (.invokespecial 26, 3) := by decide +kernel
theorem dX1_add_28 : decode cX1_add 28 = .ok (.athrow, 1) := by decide +kernel
theorem dX1_add_29 : decode cX1_add 29 = .ok (.aload_n 0, 1) := by decide +kernel
theorem dX1_add_30 : decode cX1_add 30 = .ok (.getfield 19, 3) := by decide +kernel
theorem dX1_add_33 : decode cX1_add 33 = .ok (.bipush 48, 2) := by decide +kernel
theorem dX1_add_35 : decode cX1_add 35 = .ok (.if_icmp .lt 13, 3) := by decide +kernel
theorem dX1_add_38 : decode cX1_add 38 = .ok (.new 22, 3) := by decide +kernel
theorem dX1_add_41 : decode cX1_add 41 = .ok (.dup, 1) := by decide +kernel
theorem dX1_add_42 : decode cX1_add 42 = .ok (.ldc 29, 2) := by decide +kernel
theorem dX1_add_44 : decode cX1_add 44 = .ok (.invokespecial 26, 3) := by decide +kernel
theorem dX1_add_47 : decode cX1_add 47 = .ok (.athrow, 1) := by decide +kernel
theorem dX1_add_48 : decode cX1_add 48 = .ok (.aload_n 0, 1) := by decide +kernel
theorem dX1_add_49 : decode cX1_add 49 = .ok (.getfield 15, 3) := by decide +kernel
theorem dX1_add_52 : decode cX1_add 52 = .ok (.istore_n 1, 1) := by decide +kernel
theorem dX1_add_53 : decode cX1_add 53 = .ok (.aload_n 0, 1) := by decide +kernel
theorem dX1_add_54 : decode cX1_add 54 = .ok (.getfield 11, 3) := by decide +kernel
theorem dX1_add_57 : decode cX1_add 57 = .ok (.iload_n 1, 1) := by decide +kernel
theorem dX1_add_58 : decode cX1_add 58 = .ok (.new 9, 3) := by decide +kernel
theorem dX1_add_61 : decode cX1_add 61 = .ok (.dup, 1) := by decide +kernel
theorem dX1_add_62 : decode cX1_add 62 = .ok (.aload_n 0, 1) := by decide +kernel
theorem dX1_add_63 : decode cX1_add 63 = .ok (.getfield 19, 3) := by decide +kernel
theorem dX1_add_66 : decode cX1_add 66 = .ok (.invokespecial 31, 3) := by decide +kernel
theorem dX1_add_69 : decode cX1_add 69 = .ok (.aastore, 1) := by decide +kernel
theorem dX1_add_70 : decode cX1_add 70 = .ok (.aload_n 0, 1) := by decide +kernel
theorem dX1_add_71 : decode cX1_add 71 = .ok (.iload_n 1, 1) := by decide +kernel
theorem dX1_add_72 : decode cX1_add 72 = .ok (.iconst 1, 1) := by decide +kernel
theorem dX1_add_73 : decode cX1_add 73 = .ok (.iadd, 1) := by decide +kernel
theorem dX1_add_74 : decode cX1_add 74 = .ok (.putfield 15, 3) := by decide +kernel
theorem dX1_add_77 : decode cX1_add 77 = .ok (.iload_n 1, 1) := by decide +kernel
theorem dX1_add_78 : decode cX1_add 78 = .ok (.ireturn, 1) := by decide +kernel
set_option maxRecDepth 20000 in
theorem ggX1_tell_X1_existing : GoodIn wsX1_tell wsX1_existing := goodIn_ca (goodIn_r _ [11, 12, 13, 14, 37, 38, 39] (by decide +kernel) (by decide +kernel)) (goodIn_sub (fun _ h => List.mem_cons_of_mem _ (List.mem_append_right _ h)) (by decide +kernel))
set_option maxRecDepth 20000 in
theorem gX1_tell_X1_existing : GoodIn wsX1_tell (wsV RX1 34 RX1 yX1_existing wsX1_existing) := goodIn_app (goodIn_of _ (by decide +kernel)) ggX1_tell_X1_existing
set_option maxRecDepth 20000 in
theorem ggX1_tell_X1_checkFact : GoodIn wsX1_tell wsX1_checkFact := goodIn_ca (goodIn_r _ [17, 1, 2] (by decide +kernel) (by decide +kernel)) (goodIn_sub (fun _ h => List.mem_cons_of_mem _ (List.mem_append_left _ (List.mem_append_left _ (List.mem_append_right _ h)))) (by decide +kernel))
set_option maxRecDepth 20000 in
theorem gX1_tell_X1_checkFact : GoodIn wsX1_tell (va_wsS RX1 38 yX1_checkFact wsX1_checkFact) := goodIn_app (goodIn_of _ (by decide +kernel)) ggX1_tell_X1_checkFact
set_option maxRecDepth 20000 in
theorem ggX1_tell_X1_monthCountedFrom : GoodIn wsX1_tell wsX1_monthCountedFrom := goodIn_r _ [20] (by decide +kernel) (by decide +kernel)
set_option maxRecDepth 20000 in
theorem gX1_tell_X1_monthCountedFrom : GoodIn wsX1_tell (va_wsS RX1 60 yX1_monthCountedFrom wsX1_monthCountedFrom) := goodIn_app (goodIn_of _ (by decide +kernel)) ggX1_tell_X1_monthCountedFrom
set_option maxRecDepth 20000 in
theorem ggX1_tell_X0_change : GoodIn wsX1_tell wsX0_change := goodIn_r _ [24, 25, 26, 27, 28, 29, 30, 31, 32, 33, 34, 35, 36] (by decide +kernel) (by decide +kernel)
set_option maxRecDepth 20000 in
theorem gX1_tell_X0_change_n64 : GoodIn wsX1_tell (wsX0_change) := ggX1_tell_X0_change
theorem dX1_tell_0 : decode cX1_tell 0 = .ok (.aload_n 0, 1) := by decide +kernel
theorem dX1_tell_1 : decode cX1_tell 1 = .ok (.iload_n 1, 1) := by decide +kernel
theorem dX1_tell_2 : decode cX1_tell 2 = .ok (.invokevirtual 34, 3) := by decide +kernel
theorem dX1_tell_5 : decode cX1_tell 5 = .ok (.astore 5, 2) := by decide +kernel
theorem dX1_tell_7 : decode cX1_tell 7 = .ok (.iload_n 2, 1) := by decide +kernel
theorem dX1_tell_8 : decode cX1_tell 8 = .ok (.invokestatic 38, 3) := by decide +kernel
theorem dX1_tell_11 : decode cX1_tell 11 = .ok (.iload_n 3, 1) := by decide +kernel
theorem dX1_tell_12 : decode cX1_tell 12 = .ok (.ifCond .lt 10, 3) := by decide +kernel
theorem dX1_tell_15 : decode cX1_tell 15 = .ok (.iload_n 3, 1) := by decide +kernel
theorem dX1_tell_16 : decode cX1_tell 16 = .ok (.sipush 1440, 3) := by decide +kernel
theorem dX1_tell_19 : decode cX1_tell 19 = .ok (.if_icmp .lt 13, 3) := by decide +kernel
theorem dX1_tell_22 : decode cX1_tell 22 = .ok (.new 41, 3) := by decide +kernel
theorem dX1_tell_25 : decode cX1_tell 25 = .ok (.dup, 1) := by decide +kernel
theorem dX1_tell_26 : decode cX1_tell 26 = .ok (.ldc 43, 2) := by decide +kernel
theorem dX1_tell_28 : decode cX1_tell 28 = .ok (.invokespecial 45, 3) := by decide +kernel
theorem dX1_tell_31 : decode cX1_tell 31 = .ok (.athrow, 1) := by decide +kernel
theorem dX1_tell_32 : decode cX1_tell 32 = .ok (.iload 4, 2) := by decide +kernel
theorem dX1_tell_34 : decode cX1_tell 34 = .ok (.getstatic 46, 3) := by decide +kernel
theorem dX1_tell_37 : decode cX1_tell 37 = .ok (.iload_n 2, 1) := by decide +kernel
theorem dX1_tell_38 : decode cX1_tell 38 = .ok (.iaload, 1) := by decide +kernel
theorem dX1_tell_39 : decode cX1_tell 39 = .ok (.if_icmp .lt 13, 3) := by decide +kernel
theorem dX1_tell_42 : decode cX1_tell 42 = .ok (.iload 4, 2) := by decide +kernel
theorem dX1_tell_44 : decode cX1_tell 44 = .ok (.getstatic 50, 3) := by decide +kernel
theorem dX1_tell_47 : decode cX1_tell 47 = .ok (.iload_n 2, 1) := by decide +kernel
theorem dX1_tell_48 : decode cX1_tell 48 = .ok (.iaload, 1) := by decide +kernel
theorem dX1_tell_49 : decode cX1_tell 49 = .ok (.if_icmp .le 13, 3) := by decide +kernel
theorem dX1_tell_52 : decode cX1_tell 52 = .ok (.new 41, 3) := by decide +kernel
theorem dX1_tell_55 : decode cX1_tell 55 = .ok (.dup, 1) := by decide +kernel
theorem dX1_tell_56 : decode cX1_tell 56 = .ok (.ldc 53, 2) := by decide +kernel
theorem dX1_tell_58 : decode cX1_tell 58 = .ok (.invokespecial 45, 3) := by decide +kernel
theorem dX1_tell_61 : decode cX1_tell 61 = .ok (.athrow, 1) := by decide +kernel
theorem dX1_tell_62 : decode cX1_tell 62 = .ok (.aload 5, 2) := by decide +kernel
theorem dX1_tell_64 : decode cX1_tell 64 = .ok (.getfield 55, 3) := by decide +kernel
theorem dX1_tell_67 : decode cX1_tell 67 = .ok (.bipush 100, 2) := by decide +kernel
theorem dX1_tell_69 : decode cX1_tell 69 = .ok (.if_icmp .lt 13, 3) := by decide +kernel
theorem dX1_tell_72 : decode cX1_tell 72 = .ok (.new 22, 3) := by decide +kernel
theorem dX1_tell_75 : decode cX1_tell 75 = .ok (.dup, 1) := by decide +kernel
theorem dX1_tell_76 : decode cX1_tell 76 = .ok (.ldc 58, 2) := by decide +kernel
theorem dX1_tell_78 : decode cX1_tell 78 = .ok (.invokespecial 26, 3) := by decide +kernel
theorem dX1_tell_81 : decode cX1_tell 81 = .ok (.athrow, 1) := by decide +kernel
theorem dX1_tell_82 : decode cX1_tell 82 = .ok (.iload_n 3, 1) := by decide +kernel
theorem dX1_tell_83 : decode cX1_tell 83 = .ok (.invokestatic 60, 3) := by decide +kernel
theorem dX1_tell_86 : decode cX1_tell 86 = .ok (.istore 6, 2) := by decide +kernel
theorem dX1_tell_88 : decode cX1_tell 88 = .ok (.aload 5, 2) := by decide +kernel
theorem dX1_tell_90 : decode cX1_tell 90 = .ok (.iload_n 2, 1) := by decide +kernel
theorem dX1_tell_91 : decode cX1_tell 91 = .ok (.iload 6, 2) := by decide +kernel
theorem dX1_tell_93 : decode cX1_tell 93 = .ok (.iload 4, 2) := by decide +kernel
theorem dX1_tell_95 : decode cX1_tell 95 = .ok (.invokevirtual 64, 3) := by decide +kernel
theorem dX1_tell_98 : decode cX1_tell 98 = .ok (.iload 6, 2) := by decide +kernel
theorem dX1_tell_100 : decode cX1_tell 100 = .ok (.ireturn, 1) := by decide +kernel
set_option maxRecDepth 20000 in
theorem ggX1_dispute_X1_existing : GoodIn wsX1_dispute wsX1_existing := goodIn_ca (goodIn_r _ [5, 6, 7, 8, 18, 19, 20] (by decide +kernel) (by decide +kernel)) (goodIn_sub (fun _ h => List.mem_cons_of_mem _ (List.mem_append_right _ h)) (by decide +kernel))
set_option maxRecDepth 20000 in
theorem gX1_dispute_X1_existing : GoodIn wsX1_dispute (wsV RX1 34 RX1 yX1_existing wsX1_existing) := goodIn_app (goodIn_of _ (by decide +kernel)) ggX1_dispute_X1_existing
theorem dX1_dispute_0 : decode cX1_dispute 0 = .ok (.aload_n 0, 1) := by decide +kernel
theorem dX1_dispute_1 : decode cX1_dispute 1 = .ok (.iload_n 1, 1) := by decide +kernel
theorem dX1_dispute_2 : decode cX1_dispute 2 = .ok (.invokevirtual 34, 3) := by decide +kernel
theorem dX1_dispute_5 : decode cX1_dispute 5 = .ok (.astore_n 3, 1) := by decide +kernel
theorem dX1_dispute_6 : decode cX1_dispute 6 = .ok (.aload_n 3, 1) := by decide +kernel
theorem dX1_dispute_7 : decode cX1_dispute 7 = .ok (.getfield 68, 3) := by decide +kernel
theorem dX1_dispute_10 : decode cX1_dispute 10 = .ok (.istore 4, 2) := by decide +kernel
theorem dX1_dispute_12 : decode cX1_dispute 12 = .ok (.aload_n 3, 1) := by decide +kernel
theorem dX1_dispute_13 : decode cX1_dispute 13 = .ok (.iload_n 2, 1) := by decide +kernel
theorem dX1_dispute_14 : decode cX1_dispute 14 = .ok (.putfield 68, 3) := by decide +kernel
theorem dX1_dispute_17 : decode cX1_dispute 17 = .ok (.iload 4, 2) := by decide +kernel
theorem dX1_dispute_19 : decode cX1_dispute 19 = .ok (.ireturn, 1) := by decide +kernel
set_option maxRecDepth 20000 in
theorem ggX1_payBack_X1_existing : GoodIn wsX1_payBack wsX1_existing := goodIn_ca (goodIn_r _ [10, 11, 12, 13, 29, 30, 31] (by decide +kernel) (by decide +kernel)) (goodIn_sub (fun _ h => List.mem_cons_of_mem _ (List.mem_append_right _ h)) (by decide +kernel))
set_option maxRecDepth 20000 in
theorem gX1_payBack_X1_existing : GoodIn wsX1_payBack (wsV RX1 34 RX1 yX1_existing wsX1_existing) := goodIn_app (goodIn_of _ (by decide +kernel)) ggX1_payBack_X1_existing
set_option maxRecDepth 20000 in
theorem ggX1_payBack_X0_lowerDebt : GoodIn wsX1_payBack wsX0_lowerDebt := goodIn_r _ [17, 18, 19, 20, 21, 22, 23, 24, 25, 26, 27, 28] (by decide +kernel) (by decide +kernel)
set_option maxRecDepth 20000 in
theorem gX1_payBack_X0_lowerDebt_n80 : GoodIn wsX1_payBack (wsX0_lowerDebt) := ggX1_payBack_X0_lowerDebt
theorem dX1_payBack_0 : decode cX1_payBack 0 = .ok (.aload_n 0, 1) := by decide +kernel
theorem dX1_payBack_1 : decode cX1_payBack 1 = .ok (.iload_n 1, 1) := by decide +kernel
theorem dX1_payBack_2 : decode cX1_payBack 2 = .ok (.invokevirtual 34, 3) := by decide +kernel
theorem dX1_payBack_5 : decode cX1_payBack 5 = .ok (.astore_n 3, 1) := by decide +kernel
theorem dX1_payBack_6 : decode cX1_payBack 6 = .ok (.iload_n 2, 1) := by decide +kernel
theorem dX1_payBack_7 : decode cX1_payBack 7 = .ok (.iconst 1, 1) := by decide +kernel
theorem dX1_payBack_8 : decode cX1_payBack 8 = .ok (.if_icmp .lt 9, 3) := by decide +kernel
theorem dX1_payBack_11 : decode cX1_payBack 11 = .ok (.iload_n 2, 1) := by decide +kernel
theorem dX1_payBack_12 : decode cX1_payBack 12 = .ok (.ldc 72, 2) := by decide +kernel
theorem dX1_payBack_14 : decode cX1_payBack 14 = .ok (.if_icmp .le 13, 3) := by decide +kernel
theorem dX1_payBack_17 : decode cX1_payBack 17 = .ok (.new 41, 3) := by decide +kernel
theorem dX1_payBack_20 : decode cX1_payBack 20 = .ok (.dup, 1) := by decide +kernel
theorem dX1_payBack_21 : decode cX1_payBack 21 = .ok (.ldc 73, 2) := by decide +kernel
theorem dX1_payBack_23 : decode cX1_payBack 23 = .ok (.invokespecial 45, 3) := by decide +kernel
theorem dX1_payBack_26 : decode cX1_payBack 26 = .ok (.athrow, 1) := by decide +kernel
theorem dX1_payBack_27 : decode cX1_payBack 27 = .ok (.aload_n 3, 1) := by decide +kernel
theorem dX1_payBack_28 : decode cX1_payBack 28 = .ok (.getfield 75, 3) := by decide +kernel
theorem dX1_payBack_31 : decode cX1_payBack 31 = .ok (.iload_n 2, 1) := by decide +kernel
theorem dX1_payBack_32 : decode cX1_payBack 32 = .ok (.if_icmp .ge 13, 3) := by decide +kernel
theorem dX1_payBack_35 : decode cX1_payBack 35 = .ok (.new 22, 3) := by decide +kernel
theorem dX1_payBack_38 : decode cX1_payBack 38 = .ok (.dup, 1) := by decide +kernel
theorem dX1_payBack_39 : decode cX1_payBack 39 = .ok (.ldc 78, 2) := by decide +kernel
theorem dX1_payBack_41 : decode cX1_payBack 41 = .ok (.invokespecial 26, 3) := by decide +kernel
theorem dX1_payBack_44 : decode cX1_payBack 44 = .ok (.athrow, 1) := by decide +kernel
theorem dX1_payBack_45 : decode cX1_payBack 45 = .ok (.aload_n 3, 1) := by decide +kernel
theorem dX1_payBack_46 : decode cX1_payBack 46 = .ok (.iload_n 2, 1) := by decide +kernel
theorem dX1_payBack_47 : decode cX1_payBack 47 = .ok (.invokevirtual 80, 3) := by decide +kernel
theorem dX1_payBack_50 : decode cX1_payBack 50 = .ok (.aload_n 3, 1) := by decide +kernel
theorem dX1_payBack_51 : decode cX1_payBack 51 = .ok (.getfield 75, 3) := by decide +kernel
theorem dX1_payBack_54 : decode cX1_payBack 54 = .ok (.ireturn, 1) := by decide +kernel
theorem dX1_households_0 : decode cX1_households 0 = .ok (.aload_n 0, 1) := by decide +kernel
theorem dX1_households_1 : decode cX1_households 1 = .ok (.getfield 15, 3) := by decide +kernel
theorem dX1_households_4 : decode cX1_households 4 = .ok (.ireturn, 1) := by decide +kernel
set_option maxRecDepth 20000 in
theorem ggX1_close_X0_settle : GoodIn wsX1_close wsX0_settle := goodIn_r _ [8, 9, 10, 11, 12, 13, 14, 15, 6, 16, 17, 18, 19, 20, 21, 22, 23, 24, 25, 26, 27, 28, 29, 30, 31, 32, 33, 34, 35, 36, 37, 38, 39, 40, 41, 42, 43, 44, 45, 46, 47, 48, 49, 50, 51, 52, 53, 54, 55, 56, 57, 58, 59, 60, 61, 62, 63, 64, 65, 69, 70, 71, 72, 73, 74, 75, 76, 77] (by decide +kernel) (by decide +kernel)
set_option maxRecDepth 20000 in
theorem gX1_close_X0_settle_n83 : GoodIn wsX1_close (wsX0_settle) := ggX1_close_X0_settle
theorem dX1_close_0 : decode cX1_close 0 = .ok (.aload_n 0, 1) := by decide +kernel
theorem dX1_close_1 : decode cX1_close 1 = .ok (.getfield 19, 3) := by decide +kernel
theorem dX1_close_4 : decode cX1_close 4 = .ok (.bipush 48, 2) := by decide +kernel
theorem dX1_close_6 : decode cX1_close 6 = .ok (.if_icmp .lt 13, 3) := by decide +kernel
theorem dX1_close_9 : decode cX1_close 9 = .ok (.new 22, 3) := by decide +kernel
theorem dX1_close_12 : decode cX1_close 12 = .ok (.dup, 1) := by decide +kernel
theorem dX1_close_13 : decode cX1_close 13 = .ok (.ldc 29, 2) := by decide +kernel
theorem dX1_close_15 : decode cX1_close 15 = .ok (.invokespecial 26, 3) := by decide +kernel
theorem dX1_close_18 : decode cX1_close 18 = .ok (.athrow, 1) := by decide +kernel
theorem dX1_close_19 : decode cX1_close 19 = .ok (.iconst 0, 1) := by decide +kernel
theorem dX1_close_20 : decode cX1_close 20 = .ok (.istore_n 1, 1) := by decide +kernel
theorem dX1_close_21 : decode cX1_close 21 = .ok (.aload_n 0, 1) := by decide +kernel
theorem dX1_close_22 : decode cX1_close 22 = .ok (.getfield 11, 3) := by decide +kernel
theorem dX1_close_25 : decode cX1_close 25 = .ok (.astore_n 2, 1) := by decide +kernel
theorem dX1_close_26 : decode cX1_close 26 = .ok (.aload_n 2, 1) := by decide +kernel
theorem dX1_close_27 : decode cX1_close 27 = .ok (.arraylength, 1) := by decide +kernel
theorem dX1_close_28 : decode cX1_close 28 = .ok (.istore_n 3, 1) := by decide +kernel
theorem dX1_close_29 : decode cX1_close 29 = .ok (.iconst 0, 1) := by decide +kernel
theorem dX1_close_30 : decode cX1_close 30 = .ok (.istore 4, 2) := by decide +kernel
theorem dX1_close_32 : decode cX1_close 32 = .ok (.iload 4, 2) := by decide +kernel
theorem dX1_close_34 : decode cX1_close 34 = .ok (.iload_n 3, 1) := by decide +kernel
theorem dX1_close_35 : decode cX1_close 35 = .ok (.if_icmp .ge 32, 3) := by decide +kernel
theorem dX1_close_38 : decode cX1_close 38 = .ok (.aload_n 2, 1) := by decide +kernel
theorem dX1_close_39 : decode cX1_close 39 = .ok (.iload 4, 2) := by decide +kernel
theorem dX1_close_41 : decode cX1_close 41 = .ok (.aaload, 1) := by decide +kernel
theorem dX1_close_42 : decode cX1_close 42 = .ok (.astore 5, 2) := by decide +kernel
theorem dX1_close_44 : decode cX1_close 44 = .ok (.aload 5, 2) := by decide +kernel
theorem dX1_close_46 : decode cX1_close 46 = .ok (.ifnull 15, 3) := by decide +kernel
theorem dX1_close_49 : decode cX1_close 49 = .ok (.iload_n 1, 1) := by decide +kernel
theorem dX1_close_50 : decode cX1_close 50 = .ok (.aload 5, 2) := by decide +kernel
theorem dX1_close_52 : decode cX1_close 52 = .ok (.aload_n 0, 1) := by decide +kernel
theorem dX1_close_53 : decode cX1_close 53 = .ok (.getfield 19, 3) := by decide +kernel
theorem dX1_close_56 : decode cX1_close 56 = .ok (.invokevirtual 83, 3) := by decide +kernel
theorem dX1_close_59 : decode cX1_close 59 = .ok (.iadd, 1) := by decide +kernel
theorem dX1_close_60 : decode cX1_close 60 = .ok (.istore_n 1, 1) := by decide +kernel
theorem dX1_close_61 : decode cX1_close 61 = .ok (.iinc 4 1, 3) := by decide +kernel
theorem dX1_close_64 : decode cX1_close 64 = .ok (.goto (-32), 3) := by decide +kernel
theorem dX1_close_67 : decode cX1_close 67 = .ok (.aload_n 0, 1) := by decide +kernel
theorem dX1_close_68 : decode cX1_close 68 = .ok (.dup, 1) := by decide +kernel
theorem dX1_close_69 : decode cX1_close 69 = .ok (.getfield 19, 3) := by decide +kernel
theorem dX1_close_72 : decode cX1_close 72 = .ok (.iconst 1, 1) := by decide +kernel
theorem dX1_close_73 : decode cX1_close 73 = .ok (.iadd, 1) := by decide +kernel
theorem dX1_close_74 : decode cX1_close 74 = .ok (.putfield 19, 3) := by decide +kernel
theorem dX1_close_77 : decode cX1_close 77 = .ok (.iload_n 1, 1) := by decide +kernel
theorem dX1_close_78 : decode cX1_close 78 = .ok (.ireturn, 1) := by decide +kernel
theorem dX1_month_0 : decode cX1_month 0 = .ok (.aload_n 0, 1) := by decide +kernel
theorem dX1_month_1 : decode cX1_month 1 = .ok (.getfield 19, 3) := by decide +kernel
theorem dX1_month_4 : decode cX1_month 4 = .ok (.bipush 48, 2) := by decide +kernel
theorem dX1_month_6 : decode cX1_month 6 = .ok (.if_icmp .ge 10, 3) := by decide +kernel
theorem dX1_month_9 : decode cX1_month 9 = .ok (.aload_n 0, 1) := by decide +kernel
theorem dX1_month_10 : decode cX1_month 10 = .ok (.getfield 19, 3) := by decide +kernel
theorem dX1_month_13 : decode cX1_month 13 = .ok (.goto 4, 3) := by decide +kernel
theorem dX1_month_16 : decode cX1_month 16 = .ok (.iconst (-1), 1) := by decide +kernel
theorem dX1_month_17 : decode cX1_month 17 = .ok (.ireturn, 1) := by decide +kernel
set_option maxRecDepth 20000 in
theorem ggX1_fact_X1_existing : GoodIn wsX1_fact wsX1_existing := goodIn_ca (goodIn_r _ [5, 6, 7, 8, 26, 27, 28] (by decide +kernel) (by decide +kernel)) (goodIn_sub (fun _ h => List.mem_cons_of_mem _ (List.mem_append_left _ (List.mem_append_right _ h))) (by decide +kernel))
set_option maxRecDepth 20000 in
theorem gX1_fact_X1_existing : GoodIn wsX1_fact (wsV RX1 34 RX1 yX1_existing wsX1_existing) := goodIn_app (goodIn_of _ (by decide +kernel)) ggX1_fact_X1_existing
set_option maxRecDepth 20000 in
theorem ggX1_fact_X1_checkMonth : GoodIn wsX1_fact wsX1_checkMonth := goodIn_ca (goodIn_r _ [11, 6, 7] (by decide +kernel) (by decide +kernel)) (goodIn_sub (fun _ h => List.mem_cons_of_mem _ (List.mem_append_left _ (List.mem_append_right _ h))) (by decide +kernel))
set_option maxRecDepth 20000 in
theorem gX1_fact_X1_checkMonth : GoodIn wsX1_fact (va_wsS RX1 86 yX1_checkMonth wsX1_checkMonth) := goodIn_app (goodIn_of _ (by decide +kernel)) ggX1_fact_X1_checkMonth
set_option maxRecDepth 20000 in
theorem ggX1_fact_X1_checkFact : GoodIn wsX1_fact wsX1_checkFact := goodIn_ca (goodIn_r _ [14, 15, 16] (by decide +kernel) (by decide +kernel)) (goodIn_sub (fun _ h => List.mem_cons_of_mem _ (List.mem_append_right _ h)) (by decide +kernel))
set_option maxRecDepth 20000 in
theorem gX1_fact_X1_checkFact : GoodIn wsX1_fact (va_wsS RX1 38 yX1_checkFact wsX1_checkFact) := goodIn_app (goodIn_of _ (by decide +kernel)) ggX1_fact_X1_checkFact
theorem dX1_fact_0 : decode cX1_fact 0 = .ok (.aload_n 0, 1) := by decide +kernel
theorem dX1_fact_1 : decode cX1_fact 1 = .ok (.iload_n 1, 1) := by decide +kernel
theorem dX1_fact_2 : decode cX1_fact 2 = .ok (.invokevirtual 34, 3) := by decide +kernel
theorem dX1_fact_5 : decode cX1_fact 5 = .ok (.astore 4, 2) := by decide +kernel
theorem dX1_fact_7 : decode cX1_fact 7 = .ok (.iload_n 3, 1) := by decide +kernel
theorem dX1_fact_8 : decode cX1_fact 8 = .ok (.invokestatic 86, 3) := by decide +kernel
theorem dX1_fact_11 : decode cX1_fact 11 = .ok (.iload_n 2, 1) := by decide +kernel
theorem dX1_fact_12 : decode cX1_fact 12 = .ok (.invokestatic 38, 3) := by decide +kernel
theorem dX1_fact_15 : decode cX1_fact 15 = .ok (.aload 4, 2) := by decide +kernel
theorem dX1_fact_17 : decode cX1_fact 17 = .ok (.getfield 89, 3) := by decide +kernel
theorem dX1_fact_20 : decode cX1_fact 20 = .ok (.iload_n 2, 1) := by decide +kernel
theorem dX1_fact_21 : decode cX1_fact 21 = .ok (.aaload, 1) := by decide +kernel
theorem dX1_fact_22 : decode cX1_fact 22 = .ok (.iload_n 3, 1) := by decide +kernel
theorem dX1_fact_23 : decode cX1_fact 23 = .ok (.iaload, 1) := by decide +kernel
theorem dX1_fact_24 : decode cX1_fact 24 = .ok (.ireturn, 1) := by decide +kernel
set_option maxRecDepth 20000 in
theorem ggX1_need_X1_existing : GoodIn wsX1_need wsX1_existing := goodIn_ca (goodIn_r _ [5, 6, 7, 8, 22, 23, 24] (by decide +kernel) (by decide +kernel)) (goodIn_sub (fun _ h => List.mem_cons_of_mem _ (List.mem_append_right _ h)) (by decide +kernel))
set_option maxRecDepth 20000 in
theorem gX1_need_X1_existing : GoodIn wsX1_need (wsV RX1 34 RX1 yX1_existing wsX1_existing) := goodIn_app (goodIn_of _ (by decide +kernel)) ggX1_need_X1_existing
set_option maxRecDepth 20000 in
theorem ggX1_need_X1_checkMonth : GoodIn wsX1_need wsX1_checkMonth := goodIn_ca (goodIn_r _ [11, 6, 7] (by decide +kernel) (by decide +kernel)) (goodIn_sub (fun _ h => List.mem_cons_of_mem _ (List.mem_append_right _ h)) (by decide +kernel))
set_option maxRecDepth 20000 in
theorem gX1_need_X1_checkMonth : GoodIn wsX1_need (va_wsS RX1 86 yX1_checkMonth wsX1_checkMonth) := goodIn_app (goodIn_of _ (by decide +kernel)) ggX1_need_X1_checkMonth
set_option maxRecDepth 20000 in
theorem ggX1_need_X0_needIn : GoodIn wsX1_need wsX0_needIn := goodIn_r _ [15, 16, 17, 18, 19, 20, 21, 25, 26, 27, 28, 29, 30, 31, 32, 33] (by decide +kernel) (by decide +kernel)
set_option maxRecDepth 20000 in
theorem gX1_need_X0_needIn_n93 : GoodIn wsX1_need (wsX0_needIn) := ggX1_need_X0_needIn
theorem dX1_need_0 : decode cX1_need 0 = .ok (.aload_n 0, 1) := by decide +kernel
theorem dX1_need_1 : decode cX1_need 1 = .ok (.iload_n 1, 1) := by decide +kernel
theorem dX1_need_2 : decode cX1_need 2 = .ok (.invokevirtual 34, 3) := by decide +kernel
theorem dX1_need_5 : decode cX1_need 5 = .ok (.astore_n 3, 1) := by decide +kernel
theorem dX1_need_6 : decode cX1_need 6 = .ok (.iload_n 2, 1) := by decide +kernel
theorem dX1_need_7 : decode cX1_need 7 = .ok (.invokestatic 86, 3) := by decide +kernel
theorem dX1_need_10 : decode cX1_need 10 = .ok (.aload_n 3, 1) := by decide +kernel
theorem dX1_need_11 : decode cX1_need 11 = .ok (.iload_n 2, 1) := by decide +kernel
theorem dX1_need_12 : decode cX1_need 12 = .ok (.invokevirtual 93, 3) := by decide +kernel
theorem dX1_need_15 : decode cX1_need 15 = .ok (.ireturn, 1) := by decide +kernel
set_option maxRecDepth 20000 in
theorem ggX1_taper_X1_existing : GoodIn wsX1_taper wsX1_existing := goodIn_ca (goodIn_r _ [5, 6, 7, 8, 21, 22, 23] (by decide +kernel) (by decide +kernel)) (goodIn_sub (fun _ h => List.mem_cons_of_mem _ (List.mem_append_right _ h)) (by decide +kernel))
set_option maxRecDepth 20000 in
theorem gX1_taper_X1_existing : GoodIn wsX1_taper (wsV RX1 34 RX1 yX1_existing wsX1_existing) := goodIn_app (goodIn_of _ (by decide +kernel)) ggX1_taper_X1_existing
set_option maxRecDepth 20000 in
theorem ggX1_taper_X1_checkMonth : GoodIn wsX1_taper wsX1_checkMonth := goodIn_ca (goodIn_r _ [11, 6, 7] (by decide +kernel) (by decide +kernel)) (goodIn_sub (fun _ h => List.mem_cons_of_mem _ (List.mem_append_right _ h)) (by decide +kernel))
set_option maxRecDepth 20000 in
theorem gX1_taper_X1_checkMonth : GoodIn wsX1_taper (va_wsS RX1 86 yX1_checkMonth wsX1_checkMonth) := goodIn_app (goodIn_of _ (by decide +kernel)) ggX1_taper_X1_checkMonth
set_option maxRecDepth 20000 in
theorem ggX1_taper_X0_taperIn : GoodIn wsX1_taper wsX0_taperIn := goodIn_r _ [15, 16, 17, 18, 19, 20, 24, 25, 26, 27, 28, 29, 30, 31, 32] (by decide +kernel) (by decide +kernel)
set_option maxRecDepth 20000 in
theorem gX1_taper_X0_taperIn_n96 : GoodIn wsX1_taper (wsX0_taperIn) := ggX1_taper_X0_taperIn
theorem dX1_taper_0 : decode cX1_taper 0 = .ok (.aload_n 0, 1) := by decide +kernel
theorem dX1_taper_1 : decode cX1_taper 1 = .ok (.iload_n 1, 1) := by decide +kernel
theorem dX1_taper_2 : decode cX1_taper 2 = .ok (.invokevirtual 34, 3) := by decide +kernel
theorem dX1_taper_5 : decode cX1_taper 5 = .ok (.astore_n 3, 1) := by decide +kernel
theorem dX1_taper_6 : decode cX1_taper 6 = .ok (.iload_n 2, 1) := by decide +kernel
theorem dX1_taper_7 : decode cX1_taper 7 = .ok (.invokestatic 86, 3) := by decide +kernel
theorem dX1_taper_10 : decode cX1_taper 10 = .ok (.aload_n 3, 1) := by decide +kernel
theorem dX1_taper_11 : decode cX1_taper 11 = .ok (.iload_n 2, 1) := by decide +kernel
theorem dX1_taper_12 : decode cX1_taper 12 = .ok (.invokevirtual 96, 3) := by decide +kernel
theorem dX1_taper_15 : decode cX1_taper 15 = .ok (.ireturn, 1) := by decide +kernel
set_option maxRecDepth 20000 in
theorem ggX1_tariff_X1_existing : GoodIn wsX1_tariff wsX1_existing := goodIn_ca (goodIn_r _ [5, 6, 7, 8, 22, 23, 24] (by decide +kernel) (by decide +kernel)) (goodIn_sub (fun _ h => List.mem_cons_of_mem _ (List.mem_append_right _ h)) (by decide +kernel))
set_option maxRecDepth 20000 in
theorem gX1_tariff_X1_existing : GoodIn wsX1_tariff (wsV RX1 34 RX1 yX1_existing wsX1_existing) := goodIn_app (goodIn_of _ (by decide +kernel)) ggX1_tariff_X1_existing
set_option maxRecDepth 20000 in
theorem ggX1_tariff_X1_checkMonth : GoodIn wsX1_tariff wsX1_checkMonth := goodIn_ca (goodIn_r _ [11, 6, 7] (by decide +kernel) (by decide +kernel)) (goodIn_sub (fun _ h => List.mem_cons_of_mem _ (List.mem_append_right _ h)) (by decide +kernel))
set_option maxRecDepth 20000 in
theorem gX1_tariff_X1_checkMonth : GoodIn wsX1_tariff (va_wsS RX1 86 yX1_checkMonth wsX1_checkMonth) := goodIn_app (goodIn_of _ (by decide +kernel)) ggX1_tariff_X1_checkMonth
set_option maxRecDepth 20000 in
theorem ggX1_tariff_X0_tariffIn : GoodIn wsX1_tariff wsX0_tariffIn := goodIn_r _ [15, 16, 17, 18, 19, 20, 21, 25, 26, 27, 28, 29, 30, 31, 32, 33] (by decide +kernel) (by decide +kernel)
set_option maxRecDepth 20000 in
theorem gX1_tariff_X0_tariffIn_n99 : GoodIn wsX1_tariff (wsX0_tariffIn) := ggX1_tariff_X0_tariffIn
theorem dX1_tariff_0 : decode cX1_tariff 0 = .ok (.aload_n 0, 1) := by decide +kernel
theorem dX1_tariff_1 : decode cX1_tariff 1 = .ok (.iload_n 1, 1) := by decide +kernel
theorem dX1_tariff_2 : decode cX1_tariff 2 = .ok (.invokevirtual 34, 3) := by decide +kernel
theorem dX1_tariff_5 : decode cX1_tariff 5 = .ok (.astore_n 3, 1) := by decide +kernel
theorem dX1_tariff_6 : decode cX1_tariff 6 = .ok (.iload_n 2, 1) := by decide +kernel
theorem dX1_tariff_7 : decode cX1_tariff 7 = .ok (.invokestatic 86, 3) := by decide +kernel
theorem dX1_tariff_10 : decode cX1_tariff 10 = .ok (.aload_n 3, 1) := by decide +kernel
theorem dX1_tariff_11 : decode cX1_tariff 11 = .ok (.iload_n 2, 1) := by decide +kernel
theorem dX1_tariff_12 : decode cX1_tariff 12 = .ok (.invokevirtual 99, 3) := by decide +kernel
theorem dX1_tariff_15 : decode cX1_tariff 15 = .ok (.ireturn, 1) := by decide +kernel
set_option maxRecDepth 20000 in
theorem ggX1_due_X1_existing : GoodIn wsX1_due wsX1_existing := goodIn_ca (goodIn_r _ [5, 6, 7, 8, 39, 40, 41] (by decide +kernel) (by decide +kernel)) (goodIn_sub (fun _ h => List.mem_cons_of_mem _ (List.mem_append_right _ h)) (by decide +kernel))
set_option maxRecDepth 20000 in
theorem gX1_due_X1_existing : GoodIn wsX1_due (wsV RX1 34 RX1 yX1_existing wsX1_existing) := goodIn_app (goodIn_of _ (by decide +kernel)) ggX1_due_X1_existing
set_option maxRecDepth 20000 in
theorem ggX1_due_X1_checkMonth : GoodIn wsX1_due wsX1_checkMonth := goodIn_ca (goodIn_r _ [11, 6, 7] (by decide +kernel) (by decide +kernel)) (goodIn_sub (fun _ h => List.mem_cons_of_mem _ (List.mem_append_right _ h)) (by decide +kernel))
set_option maxRecDepth 20000 in
theorem gX1_due_X1_checkMonth : GoodIn wsX1_due (va_wsS RX1 86 yX1_checkMonth wsX1_checkMonth) := goodIn_app (goodIn_of _ (by decide +kernel)) ggX1_due_X1_checkMonth
set_option maxRecDepth 20000 in
theorem ggX1_due_X0_dueIn : GoodIn wsX1_due wsX0_dueIn := goodIn_r _ [15, 16, 17, 18, 19, 20, 13, 21, 22, 23, 24, 25, 26, 27, 28, 29, 30, 31, 32, 33, 34, 35, 36, 37, 38, 42, 43, 44, 45, 46, 47, 48, 49, 50] (by decide +kernel) (by decide +kernel)
set_option maxRecDepth 20000 in
theorem gX1_due_X0_dueIn_n102 : GoodIn wsX1_due (wsX0_dueIn) := ggX1_due_X0_dueIn
theorem dX1_due_0 : decode cX1_due 0 = .ok (.aload_n 0, 1) := by decide +kernel
theorem dX1_due_1 : decode cX1_due 1 = .ok (.iload_n 1, 1) := by decide +kernel
theorem dX1_due_2 : decode cX1_due 2 = .ok (.invokevirtual 34, 3) := by decide +kernel
theorem dX1_due_5 : decode cX1_due 5 = .ok (.astore_n 3, 1) := by decide +kernel
theorem dX1_due_6 : decode cX1_due 6 = .ok (.iload_n 2, 1) := by decide +kernel
theorem dX1_due_7 : decode cX1_due 7 = .ok (.invokestatic 86, 3) := by decide +kernel
theorem dX1_due_10 : decode cX1_due 10 = .ok (.aload_n 3, 1) := by decide +kernel
theorem dX1_due_11 : decode cX1_due 11 = .ok (.iload_n 2, 1) := by decide +kernel
theorem dX1_due_12 : decode cX1_due 12 = .ok (.invokevirtual 102, 3) := by decide +kernel
theorem dX1_due_15 : decode cX1_due 15 = .ok (.ireturn, 1) := by decide +kernel
set_option maxRecDepth 20000 in
theorem ggX1_unassessed_X1_existing : GoodIn wsX1_unassessed wsX1_existing := goodIn_ca (goodIn_r _ [6, 7, 8, 9, 43, 44, 45] (by decide +kernel) (by decide +kernel)) (goodIn_sub (fun _ h => List.mem_cons_of_mem _ (List.mem_append_right _ h)) (by decide +kernel))
set_option maxRecDepth 20000 in
theorem gX1_unassessed_X1_existing : GoodIn wsX1_unassessed (wsV RX1 34 RX1 yX1_existing wsX1_existing) := goodIn_app (goodIn_of _ (by decide +kernel)) ggX1_unassessed_X1_existing
set_option maxRecDepth 20000 in
theorem ggX1_unassessed_X0_unassessedBefore : GoodIn wsX1_unassessed wsX0_unassessedBefore := goodIn_r _ [13, 14, 15, 16, 17, 18, 11, 19, 20, 21, 22, 23, 24, 25, 26, 27, 28, 29, 30, 31, 32, 33, 34, 35, 36, 37, 38, 39, 40, 41, 42, 46, 47, 48, 49, 50, 51, 52, 53, 54] (by decide +kernel) (by decide +kernel)
set_option maxRecDepth 20000 in
theorem gX1_unassessed_X0_unassessedBefore_n105 : GoodIn wsX1_unassessed (wsX0_unassessedBefore) := ggX1_unassessed_X0_unassessedBefore
theorem dX1_unassessed_0 : decode cX1_unassessed 0 = .ok (.aload_n 0, 1) := by decide +kernel
theorem dX1_unassessed_1 : decode cX1_unassessed 1 = .ok (.iload_n 1, 1) := by decide +kernel
theorem dX1_unassessed_2 : decode cX1_unassessed 2 = .ok (.invokevirtual 34, 3) := by decide +kernel
theorem dX1_unassessed_5 : decode cX1_unassessed 5 = .ok (.aload_n 0, 1) := by decide +kernel
theorem dX1_unassessed_6 : decode cX1_unassessed 6 = .ok (.getfield 19, 3) := by decide +kernel
theorem dX1_unassessed_9 : decode cX1_unassessed 9 = .ok (.invokevirtual 105, 3) := by decide +kernel
theorem dX1_unassessed_12 : decode cX1_unassessed 12 = .ok (.ireturn, 1) := by decide +kernel
set_option maxRecDepth 20000 in
theorem ggX1_wouldPay_X1_existing : GoodIn wsX1_wouldPay wsX1_existing := goodIn_ca (goodIn_r _ [6, 7, 8, 9, 61, 62, 63] (by decide +kernel) (by decide +kernel)) (goodIn_sub (fun _ h => List.mem_cons_of_mem _ (List.mem_append_right _ h)) (by decide +kernel))
set_option maxRecDepth 20000 in
theorem gX1_wouldPay_X1_existing : GoodIn wsX1_wouldPay (wsV RX1 34 RX1 yX1_existing wsX1_existing) := goodIn_app (goodIn_of _ (by decide +kernel)) ggX1_wouldPay_X1_existing
set_option maxRecDepth 20000 in
theorem ggX1_wouldPay_X0_paymentIn : GoodIn wsX1_wouldPay wsX0_paymentIn := goodIn_r _ [13, 14, 15, 16, 11, 17, 18, 19, 20, 21, 22, 23, 24, 25, 26, 27, 28, 29, 30, 31, 32, 33, 34, 35, 36, 37, 38, 39, 40, 41, 42, 43, 44, 45, 46, 47, 48, 49, 50, 51, 52, 53, 54, 55, 56, 57, 58, 59, 60, 64, 65, 66, 67, 68, 69, 70, 71, 72] (by decide +kernel) (by decide +kernel)
set_option maxRecDepth 20000 in
theorem gX1_wouldPay_X0_paymentIn_n108 : GoodIn wsX1_wouldPay (wsX0_paymentIn) := ggX1_wouldPay_X0_paymentIn
theorem dX1_wouldPay_0 : decode cX1_wouldPay 0 = .ok (.aload_n 0, 1) := by decide +kernel
theorem dX1_wouldPay_1 : decode cX1_wouldPay 1 = .ok (.iload_n 1, 1) := by decide +kernel
theorem dX1_wouldPay_2 : decode cX1_wouldPay 2 = .ok (.invokevirtual 34, 3) := by decide +kernel
theorem dX1_wouldPay_5 : decode cX1_wouldPay 5 = .ok (.astore_n 2, 1) := by decide +kernel
theorem dX1_wouldPay_6 : decode cX1_wouldPay 6 = .ok (.aload_n 0, 1) := by decide +kernel
theorem dX1_wouldPay_7 : decode cX1_wouldPay 7 = .ok (.getfield 19, 3) := by decide +kernel
theorem dX1_wouldPay_10 : decode cX1_wouldPay 10 = .ok (.bipush 48, 2) := by decide +kernel
theorem dX1_wouldPay_12 : decode cX1_wouldPay 12 = .ok (.if_icmp .ge 14, 3) := by decide +kernel
theorem dX1_wouldPay_15 : decode cX1_wouldPay 15 = .ok (.aload_n 2, 1) := by decide +kernel
theorem dX1_wouldPay_16 : decode cX1_wouldPay 16 = .ok (.aload_n 0, 1) := by decide +kernel
theorem dX1_wouldPay_17 : decode cX1_wouldPay 17 = .ok (.getfield 19, 3) := by decide +kernel
theorem dX1_wouldPay_20 : decode cX1_wouldPay 20 = .ok (.invokevirtual 108, 3) := by decide +kernel
theorem dX1_wouldPay_23 : decode cX1_wouldPay 23 = .ok (.goto 4, 3) := by decide +kernel
theorem dX1_wouldPay_26 : decode cX1_wouldPay 26 = .ok (.iconst 0, 1) := by decide +kernel
theorem dX1_wouldPay_27 : decode cX1_wouldPay 27 = .ok (.ireturn, 1) := by decide +kernel
set_option maxRecDepth 20000 in
theorem ggX1_assessed_X1_existing : GoodIn wsX1_assessed wsX1_existing := goodIn_ca (goodIn_r _ [5, 6, 7, 8, 21, 22, 23] (by decide +kernel) (by decide +kernel)) (goodIn_sub (fun _ h => List.mem_cons_of_mem _ (List.mem_append_right _ h)) (by decide +kernel))
set_option maxRecDepth 20000 in
theorem gX1_assessed_X1_existing : GoodIn wsX1_assessed (wsV RX1 34 RX1 yX1_existing wsX1_existing) := goodIn_app (goodIn_of _ (by decide +kernel)) ggX1_assessed_X1_existing
set_option maxRecDepth 20000 in
theorem ggX1_assessed_X1_checkMonth : GoodIn wsX1_assessed wsX1_checkMonth := goodIn_ca (goodIn_r _ [11, 6, 7] (by decide +kernel) (by decide +kernel)) (goodIn_sub (fun _ h => List.mem_cons_of_mem _ (List.mem_append_right _ h)) (by decide +kernel))
set_option maxRecDepth 20000 in
theorem gX1_assessed_X1_checkMonth : GoodIn wsX1_assessed (va_wsS RX1 86 yX1_checkMonth wsX1_checkMonth) := goodIn_app (goodIn_of _ (by decide +kernel)) ggX1_assessed_X1_checkMonth
theorem dX1_assessed_0 : decode cX1_assessed 0 = .ok (.aload_n 0, 1) := by decide +kernel
theorem dX1_assessed_1 : decode cX1_assessed 1 = .ok (.iload_n 1, 1) := by decide +kernel
theorem dX1_assessed_2 : decode cX1_assessed 2 = .ok (.invokevirtual 34, 3) := by decide +kernel
theorem dX1_assessed_5 : decode cX1_assessed 5 = .ok (.astore_n 3, 1) := by decide +kernel
theorem dX1_assessed_6 : decode cX1_assessed 6 = .ok (.iload_n 2, 1) := by decide +kernel
theorem dX1_assessed_7 : decode cX1_assessed 7 = .ok (.invokestatic 86, 3) := by decide +kernel
theorem dX1_assessed_10 : decode cX1_assessed 10 = .ok (.aload_n 3, 1) := by decide +kernel
theorem dX1_assessed_11 : decode cX1_assessed 11 = .ok (.getfield 111, 3) := by decide +kernel
theorem dX1_assessed_14 : decode cX1_assessed 14 = .ok (.iload_n 2, 1) := by decide +kernel
theorem dX1_assessed_15 : decode cX1_assessed 15 = .ok (.iaload, 1) := by decide +kernel
theorem dX1_assessed_16 : decode cX1_assessed 16 = .ok (.ireturn, 1) := by decide +kernel
set_option maxRecDepth 20000 in
theorem ggX1_paid_X1_existing : GoodIn wsX1_paid wsX1_existing := goodIn_ca (goodIn_r _ [5, 6, 7, 8, 21, 22, 23] (by decide +kernel) (by decide +kernel)) (goodIn_sub (fun _ h => List.mem_cons_of_mem _ (List.mem_append_right _ h)) (by decide +kernel))
set_option maxRecDepth 20000 in
theorem gX1_paid_X1_existing : GoodIn wsX1_paid (wsV RX1 34 RX1 yX1_existing wsX1_existing) := goodIn_app (goodIn_of _ (by decide +kernel)) ggX1_paid_X1_existing
set_option maxRecDepth 20000 in
theorem ggX1_paid_X1_checkMonth : GoodIn wsX1_paid wsX1_checkMonth := goodIn_ca (goodIn_r _ [11, 6, 7] (by decide +kernel) (by decide +kernel)) (goodIn_sub (fun _ h => List.mem_cons_of_mem _ (List.mem_append_right _ h)) (by decide +kernel))
set_option maxRecDepth 20000 in
theorem gX1_paid_X1_checkMonth : GoodIn wsX1_paid (va_wsS RX1 86 yX1_checkMonth wsX1_checkMonth) := goodIn_app (goodIn_of _ (by decide +kernel)) ggX1_paid_X1_checkMonth
theorem dX1_paid_0 : decode cX1_paid 0 = .ok (.aload_n 0, 1) := by decide +kernel
theorem dX1_paid_1 : decode cX1_paid 1 = .ok (.iload_n 1, 1) := by decide +kernel
theorem dX1_paid_2 : decode cX1_paid 2 = .ok (.invokevirtual 34, 3) := by decide +kernel
theorem dX1_paid_5 : decode cX1_paid 5 = .ok (.astore_n 3, 1) := by decide +kernel
theorem dX1_paid_6 : decode cX1_paid 6 = .ok (.iload_n 2, 1) := by decide +kernel
theorem dX1_paid_7 : decode cX1_paid 7 = .ok (.invokestatic 86, 3) := by decide +kernel
theorem dX1_paid_10 : decode cX1_paid 10 = .ok (.aload_n 3, 1) := by decide +kernel
theorem dX1_paid_11 : decode cX1_paid 11 = .ok (.getfield 114, 3) := by decide +kernel
theorem dX1_paid_14 : decode cX1_paid 14 = .ok (.iload_n 2, 1) := by decide +kernel
theorem dX1_paid_15 : decode cX1_paid 15 = .ok (.iaload, 1) := by decide +kernel
theorem dX1_paid_16 : decode cX1_paid 16 = .ok (.ireturn, 1) := by decide +kernel
set_option maxRecDepth 20000 in
theorem ggX1_debt_X1_existing : GoodIn wsX1_debt wsX1_existing := goodIn_ca (goodIn_r _ [5, 6, 7, 8, 18, 19, 20] (by decide +kernel) (by decide +kernel)) (goodIn_sub (fun _ h => List.mem_cons_of_mem _ (List.mem_append_right _ h)) (by decide +kernel))
set_option maxRecDepth 20000 in
theorem gX1_debt_X1_existing : GoodIn wsX1_debt (wsV RX1 34 RX1 yX1_existing wsX1_existing) := goodIn_app (goodIn_of _ (by decide +kernel)) ggX1_debt_X1_existing
theorem dX1_debt_0 : decode cX1_debt 0 = .ok (.aload_n 0, 1) := by decide +kernel
theorem dX1_debt_1 : decode cX1_debt 1 = .ok (.iload_n 1, 1) := by decide +kernel
theorem dX1_debt_2 : decode cX1_debt 2 = .ok (.invokevirtual 34, 3) := by decide +kernel
theorem dX1_debt_5 : decode cX1_debt 5 = .ok (.getfield 75, 3) := by decide +kernel
theorem dX1_debt_8 : decode cX1_debt 8 = .ok (.ireturn, 1) := by decide +kernel
set_option maxRecDepth 20000 in
theorem ggX1_recovered_X1_existing : GoodIn wsX1_recovered wsX1_existing := goodIn_ca (goodIn_r _ [5, 6, 7, 8, 18, 19, 20] (by decide +kernel) (by decide +kernel)) (goodIn_sub (fun _ h => List.mem_cons_of_mem _ (List.mem_append_right _ h)) (by decide +kernel))
set_option maxRecDepth 20000 in
theorem gX1_recovered_X1_existing : GoodIn wsX1_recovered (wsV RX1 34 RX1 yX1_existing wsX1_existing) := goodIn_app (goodIn_of _ (by decide +kernel)) ggX1_recovered_X1_existing
theorem dX1_recovered_0 : decode cX1_recovered 0 = .ok (.aload_n 0, 1) := by decide +kernel
theorem dX1_recovered_1 : decode cX1_recovered 1 = .ok (.iload_n 1, 1) := by decide +kernel
theorem dX1_recovered_2 : decode cX1_recovered 2 = .ok (.invokevirtual 34, 3) := by decide +kernel
theorem dX1_recovered_5 : decode cX1_recovered 5 = .ok (.getfield 117, 3) := by decide +kernel
theorem dX1_recovered_8 : decode cX1_recovered 8 = .ok (.ireturn, 1) := by decide +kernel
theorem dX1_existing_0 : decode cX1_existing 0 = .ok (.iload_n 1, 1) := by decide +kernel
theorem dX1_existing_1 : decode cX1_existing 1 = .ok (.ifCond .lt 12, 3) := by decide +kernel
theorem dX1_existing_4 : decode cX1_existing 4 = .ok (.iload_n 1, 1) := by decide +kernel
theorem dX1_existing_5 : decode cX1_existing 5 = .ok (.aload_n 0, 1) := by decide +kernel
theorem dX1_existing_6 : decode cX1_existing 6 = .ok (.getfield 11, 3) := by decide +kernel
theorem dX1_existing_9 : decode cX1_existing 9 = .ok (.arraylength, 1) := by decide +kernel
theorem dX1_existing_10 : decode cX1_existing 10 = .ok (.if_icmp .lt 13, 3) := by decide +kernel
theorem dX1_existing_13 : decode cX1_existing 13 = .ok (.new 120, 3) := by decide +kernel
theorem dX1_existing_16 : decode cX1_existing 16 = .ok (.dup, 1) := by decide +kernel
theorem dX1_existing_17 : decode cX1_existing 17 = .ok (.ldc 122, 2) := by decide +kernel
theorem dX1_existing_19 : decode cX1_existing 19 = .ok (.invokespecial 124, 3) := by decide +kernel
theorem dX1_existing_22 : decode cX1_existing 22 = .ok (.athrow, 1) := by decide +kernel
theorem dX1_existing_23 : decode cX1_existing 23 = .ok (.aload_n 0, 1) := by decide +kernel
theorem dX1_existing_24 : decode cX1_existing 24 = .ok (.getfield 11, 3) := by decide +kernel
theorem dX1_existing_27 : decode cX1_existing 27 = .ok (.iload_n 1, 1) := by decide +kernel
theorem dX1_existing_28 : decode cX1_existing 28 = .ok (.aaload, 1) := by decide +kernel
theorem dX1_existing_29 : decode cX1_existing 29 = .ok (.astore_n 2, 1) := by decide +kernel
theorem dX1_existing_30 : decode cX1_existing 30 = .ok (.aload_n 2, 1) := by decide +kernel
theorem dX1_existing_31 : decode cX1_existing 31 = .ok (.ifnonnull 13, 3) := by decide +kernel
theorem dX1_existing_34 : decode cX1_existing 34 = .ok (.new 120, 3) := by decide +kernel
theorem dX1_existing_37 : decode cX1_existing 37 = .ok (.dup, 1) := by decide +kernel
theorem dX1_existing_38 : decode cX1_existing 38 = .ok (.ldc 122, 2) := by decide +kernel
theorem dX1_existing_40 : decode cX1_existing 40 = .ok (.invokespecial 124, 3) := by decide +kernel
theorem dX1_existing_43 : decode cX1_existing 43 = .ok (.athrow, 1) := by decide +kernel
theorem dX1_existing_44 : decode cX1_existing 44 = .ok (.aload_n 2, 1) := by decide +kernel
theorem dX1_existing_45 : decode cX1_existing 45 = .ok (.areturn, 1) := by decide +kernel
theorem dX1_checkMonth_0 : decode cX1_checkMonth 0 = .ok (.iload_n 0, 1) := by decide +kernel
theorem dX1_checkMonth_1 : decode cX1_checkMonth 1 = .ok (.ifCond .lt 9, 3) := by decide +kernel
theorem dX1_checkMonth_4 : decode cX1_checkMonth 4 = .ok (.iload_n 0, 1) := by decide +kernel
theorem dX1_checkMonth_5 : decode cX1_checkMonth 5 = .ok (.bipush 48, 2) := by decide +kernel
theorem dX1_checkMonth_7 : decode cX1_checkMonth 7 = .ok (.if_icmp .lt 13, 3) := by decide +kernel
theorem dX1_checkMonth_10 : decode cX1_checkMonth 10 = .ok (.new 120, 3) := by decide +kernel
theorem dX1_checkMonth_13 : decode cX1_checkMonth 13 = .ok (.dup, 1) := by decide +kernel
theorem dX1_checkMonth_14 : decode cX1_checkMonth 14 = .ok (.ldc 125, 2) := by decide +kernel
theorem dX1_checkMonth_16 : decode cX1_checkMonth 16 = .ok (.invokespecial 124, 3) := by decide +kernel
theorem dX1_checkMonth_19 : decode cX1_checkMonth 19 = .ok (.athrow, 1) := by decide +kernel
theorem dX1_checkMonth_20 : decode cX1_checkMonth 20 = .ok (.return_, 1) := by decide +kernel
theorem dX1_checkFact_0 : decode cX1_checkFact 0 = .ok (.iload_n 0, 1) := by decide +kernel
theorem dX1_checkFact_1 : decode cX1_checkFact 1 = .ok (.ifCond .lt 8, 3) := by decide +kernel
theorem dX1_checkFact_4 : decode cX1_checkFact 4 = .ok (.iload_n 0, 1) := by decide +kernel
theorem dX1_checkFact_5 : decode cX1_checkFact 5 = .ok (.iconst 5, 1) := by decide +kernel
theorem dX1_checkFact_6 : decode cX1_checkFact 6 = .ok (.if_icmp .lt 13, 3) := by decide +kernel
theorem dX1_checkFact_9 : decode cX1_checkFact 9 = .ok (.new 41, 3) := by decide +kernel
theorem dX1_checkFact_12 : decode cX1_checkFact 12 = .ok (.dup, 1) := by decide +kernel
theorem dX1_checkFact_13 : decode cX1_checkFact 13 = .ok (.ldc 127, 2) := by decide +kernel
theorem dX1_checkFact_15 : decode cX1_checkFact 15 = .ok (.invokespecial 45, 3) := by decide +kernel
theorem dX1_checkFact_18 : decode cX1_checkFact 18 = .ok (.athrow, 1) := by decide +kernel
theorem dX1_checkFact_19 : decode cX1_checkFact 19 = .ok (.return_, 1) := by decide +kernel
theorem dX1_monthCountedFrom_0 : decode cX1_monthCountedFrom 0 = .ok (.iload_n 0, 1) := by decide +kernel
theorem dX1_monthCountedFrom_1 : decode cX1_monthCountedFrom 1 = .ok (.bipush 30, 2) := by decide +kernel
theorem dX1_monthCountedFrom_3 : decode cX1_monthCountedFrom 3 = .ok (.idiv, 1) := by decide +kernel
theorem dX1_monthCountedFrom_4 : decode cX1_monthCountedFrom 4 = .ok (.istore_n 1, 1) := by decide +kernel
theorem dX1_monthCountedFrom_5 : decode cX1_monthCountedFrom 5 = .ok (.iload_n 0, 1) := by decide +kernel
theorem dX1_monthCountedFrom_6 : decode cX1_monthCountedFrom 6 = .ok (.bipush 30, 2) := by decide +kernel
theorem dX1_monthCountedFrom_8 : decode cX1_monthCountedFrom 8 = .ok (.irem, 1) := by decide +kernel
theorem dX1_monthCountedFrom_9 : decode cX1_monthCountedFrom 9 = .ok (.bipush 15, 2) := by decide +kernel
theorem dX1_monthCountedFrom_11 : decode cX1_monthCountedFrom 11 = .ok (.if_icmp .ge 7, 3) := by decide +kernel
theorem dX1_monthCountedFrom_14 : decode cX1_monthCountedFrom 14 = .ok (.iload_n 1, 1) := by decide +kernel
theorem dX1_monthCountedFrom_15 : decode cX1_monthCountedFrom 15 = .ok (.goto 6, 3) := by decide +kernel
theorem dX1_monthCountedFrom_18 : decode cX1_monthCountedFrom 18 = .ok (.iload_n 1, 1) := by decide +kernel
theorem dX1_monthCountedFrom_19 : decode cX1_monthCountedFrom 19 = .ok (.iconst 1, 1) := by decide +kernel
theorem dX1_monthCountedFrom_20 : decode cX1_monthCountedFrom 20 = .ok (.iadd, 1) := by decide +kernel
theorem dX1_monthCountedFrom_21 : decode cX1_monthCountedFrom 21 = .ok (.ireturn, 1) := by decide +kernel
theorem dX2_init_0 : decode cX2_init 0 = .ok (.aload_n 0, 1) := by decide +kernel
theorem dX2_init_1 : decode cX2_init 1 = .ok (.invokespecial 1, 3) := by decide +kernel
theorem dX2_init_4 : decode cX2_init 4 = .ok (.aload_n 0, 1) := by decide +kernel
theorem dX2_init_5 : decode cX2_init 5 = .ok (.bipush 6, 2) := by decide +kernel
theorem dX2_init_7 : decode cX2_init 7 = .ok (.newarray .int, 2) := by decide +kernel
theorem dX2_init_9 : decode cX2_init 9 = .ok (.putfield 7, 3) := by decide +kernel
theorem dX2_init_12 : decode cX2_init 12 = .ok (.aload_n 0, 1) := by decide +kernel
theorem dX2_init_13 : decode cX2_init 13 = .ok (.bipush 6, 2) := by decide +kernel
theorem dX2_init_15 : decode cX2_init 15 = .ok (.newarray .int, 2) := by decide +kernel
theorem dX2_init_17 : decode cX2_init 17 = .ok (.putfield 13, 3) := by decide +kernel
theorem dX2_init_20 : decode cX2_init 20 = .ok (.aload_n 0, 1) := by decide +kernel
theorem dX2_init_21 : decode cX2_init 21 = .ok (.sipush 600, 3) := by decide +kernel
theorem dX2_init_24 : decode cX2_init 24 = .ok (.newarray .int, 2) := by decide +kernel
theorem dX2_init_26 : decode cX2_init 26 = .ok (.putfield 16, 3) := by decide +kernel
theorem dX2_init_29 : decode cX2_init 29 = .ok (.aload_n 0, 1) := by decide +kernel
theorem dX2_init_30 : decode cX2_init 30 = .ok (.sipush 600, 3) := by decide +kernel
theorem dX2_init_33 : decode cX2_init 33 = .ok (.newarray .int, 2) := by decide +kernel
theorem dX2_init_35 : decode cX2_init 35 = .ok (.putfield 19, 3) := by decide +kernel
theorem dX2_init_38 : decode cX2_init 38 = .ok (.aload_n 0, 1) := by decide +kernel
theorem dX2_init_39 : decode cX2_init 39 = .ok (.sipush 600, 3) := by decide +kernel
theorem dX2_init_42 : decode cX2_init 42 = .ok (.newarray .int, 2) := by decide +kernel
theorem dX2_init_44 : decode cX2_init 44 = .ok (.putfield 22, 3) := by decide +kernel
theorem dX2_init_47 : decode cX2_init 47 = .ok (.aload_n 0, 1) := by decide +kernel
theorem dX2_init_48 : decode cX2_init 48 = .ok (.sipush 288, 3) := by decide +kernel
theorem dX2_init_51 : decode cX2_init 51 = .ok (.newarray .int, 2) := by decide +kernel
theorem dX2_init_53 : decode cX2_init 53 = .ok (.putfield 25, 3) := by decide +kernel
theorem dX2_init_56 : decode cX2_init 56 = .ok (.aload_n 0, 1) := by decide +kernel
theorem dX2_init_57 : decode cX2_init 57 = .ok (.sipush 288, 3) := by decide +kernel
theorem dX2_init_60 : decode cX2_init 60 = .ok (.newarray .int, 2) := by decide +kernel
theorem dX2_init_62 : decode cX2_init 62 = .ok (.putfield 28, 3) := by decide +kernel
theorem dX2_init_65 : decode cX2_init 65 = .ok (.aload_n 0, 1) := by decide +kernel
theorem dX2_init_66 : decode cX2_init 66 = .ok (.bipush 6, 2) := by decide +kernel
theorem dX2_init_68 : decode cX2_init 68 = .ok (.newarray .int, 2) := by decide +kernel
theorem dX2_init_70 : decode cX2_init 70 = .ok (.putfield 31, 3) := by decide +kernel
theorem dX2_init_73 : decode cX2_init 73 = .ok (.aload_n 0, 1) := by decide +kernel
theorem dX2_init_74 : decode cX2_init 74 = .ok (.bipush 6, 2) := by decide +kernel
theorem dX2_init_76 : decode cX2_init 76 = .ok (.newarray .int, 2) := by decide +kernel
theorem dX2_init_78 : decode cX2_init 78 = .ok (.putfield 34, 3) := by decide +kernel
theorem dX2_init_81 : decode cX2_init 81 = .ok (.aload_n 0, 1) := by decide +kernel
theorem dX2_init_82 : decode cX2_init 82 = .ok (.bipush 6, 2) := by decide +kernel
theorem dX2_init_84 : decode cX2_init 84 = .ok (.newarray .boolean, 2) := by decide +kernel
theorem dX2_init_86 : decode cX2_init 86 = .ok (.putfield 37, 3) := by decide +kernel
theorem dX2_init_89 : decode cX2_init 89 = .ok (.return_, 1) := by decide +kernel
theorem dX2_thrown_0 : decode cX2_thrown 0 = .ok (.aload_n 0, 1) := by decide +kernel
theorem dX2_thrown_1 : decode cX2_thrown 1 = .ok (.getfield 41, 3) := by decide +kernel
theorem dX2_thrown_4 : decode cX2_thrown 4 = .ok (.ireturn, 1) := by decide +kernel
theorem dX2_fails_0 : decode cX2_fails 0 = .ok (.aload_n 0, 1) := by decide +kernel
theorem dX2_fails_1 : decode cX2_fails 1 = .ok (.iload_n 1, 1) := by decide +kernel
theorem dX2_fails_2 : decode cX2_fails 2 = .ok (.putfield 41, 3) := by decide +kernel
theorem dX2_fails_5 : decode cX2_fails 5 = .ok (.iconst 0, 1) := by decide +kernel
theorem dX2_fails_6 : decode cX2_fails 6 = .ok (.ireturn, 1) := by decide +kernel
theorem dX2_in_0 : decode cX2_in 0 = .ok (.iload_n 0, 1) := by decide +kernel
theorem dX2_in_1 : decode cX2_in 1 = .ok (.iload_n 1, 1) := by decide +kernel
theorem dX2_in_2 : decode cX2_in 2 = .ok (.if_icmp .lt 12, 3) := by decide +kernel
theorem dX2_in_5 : decode cX2_in 5 = .ok (.iload_n 0, 1) := by decide +kernel
theorem dX2_in_6 : decode cX2_in 6 = .ok (.iload_n 2, 1) := by decide +kernel
theorem dX2_in_7 : decode cX2_in 7 = .ok (.if_icmp .gt 7, 3) := by decide +kernel
theorem dX2_in_10 : decode cX2_in 10 = .ok (.iconst 1, 1) := by decide +kernel
theorem dX2_in_11 : decode cX2_in 11 = .ok (.goto 4, 3) := by decide +kernel
theorem dX2_in_14 : decode cX2_in 14 = .ok (.iconst 0, 1) := by decide +kernel
theorem dX2_in_15 : decode cX2_in 15 = .ok (.ireturn, 1) := by decide +kernel
set_option maxRecDepth 20000 in
theorem ggX2_isHome_X2_in : GoodIn wsX2_isHome wsX2_in := goodIn_r _ [5] (by decide +kernel) (by decide +kernel)
set_option maxRecDepth 20000 in
theorem gX2_isHome_X2_in : GoodIn wsX2_isHome (va_wsS RX2 48 yX2_in wsX2_in) := goodIn_app (goodIn_of _ (by decide +kernel)) ggX2_isHome_X2_in
theorem dX2_isHome_0 : decode cX2_isHome 0 = .ok (.iload_n 1, 1) := by decide +kernel
theorem dX2_isHome_1 : decode cX2_isHome 1 = .ok (.iconst 0, 1) := by decide +kernel
theorem dX2_isHome_2 : decode cX2_isHome 2 = .ok (.aload_n 0, 1) := by decide +kernel
theorem dX2_isHome_3 : decode cX2_isHome 3 = .ok (.getfield 45, 3) := by decide +kernel
theorem dX2_isHome_6 : decode cX2_isHome 6 = .ok (.iconst 1, 1) := by decide +kernel
theorem dX2_isHome_7 : decode cX2_isHome 7 = .ok (.isub, 1) := by decide +kernel
theorem dX2_isHome_8 : decode cX2_isHome 8 = .ok (.invokestatic 48, 3) := by decide +kernel
theorem dX2_isHome_11 : decode cX2_isHome 11 = .ok (.ireturn, 1) := by decide +kernel
set_option maxRecDepth 20000 in
theorem ggX2_isAsked_X2_isHome : GoodIn wsX2_isAsked wsX2_isHome := goodIn_r _ [6, 7, 8, 9, 5, 10, 11, 12, 13, 14, 15, 16, 17, 18, 19, 20, 21, 22, 23, 24, 25, 26] (by decide +kernel) (by decide +kernel)
set_option maxRecDepth 20000 in
theorem gX2_isAsked_X2_isHome : GoodIn wsX2_isAsked (wsV RX2 52 RX2 yX2_isHome wsX2_isHome) := goodIn_app (goodIn_of _ (by decide +kernel)) ggX2_isAsked_X2_isHome
set_option maxRecDepth 20000 in
theorem ggX2_isAsked_X2_in : GoodIn wsX2_isAsked wsX2_in := goodIn_r _ [10] (by decide +kernel) (by decide +kernel)
set_option maxRecDepth 20000 in
theorem gX2_isAsked_X2_in : GoodIn wsX2_isAsked (va_wsS RX2 48 yX2_in wsX2_in) := goodIn_app (goodIn_of _ (by decide +kernel)) ggX2_isAsked_X2_in
theorem dX2_isAsked_0 : decode cX2_isAsked 0 = .ok (.aload_n 0, 1) := by decide +kernel
theorem dX2_isAsked_1 : decode cX2_isAsked 1 = .ok (.aload_n 0, 1) := by decide +kernel
theorem dX2_isAsked_2 : decode cX2_isAsked 2 = .ok (.iload_n 1, 1) := by decide +kernel
theorem dX2_isAsked_3 : decode cX2_isAsked 3 = .ok (.invokevirtual 52, 3) := by decide +kernel
theorem dX2_isAsked_6 : decode cX2_isAsked 6 = .ok (.ifCond .eq 17, 3) := by decide +kernel
theorem dX2_isAsked_9 : decode cX2_isAsked 9 = .ok (.iload_n 2, 1) := by decide +kernel
theorem dX2_isAsked_10 : decode cX2_isAsked 10 = .ok (.iconst 0, 1) := by decide +kernel
theorem dX2_isAsked_11 : decode cX2_isAsked 11 = .ok (.bipush 47, 2) := by decide +kernel
theorem dX2_isAsked_13 : decode cX2_isAsked 13 = .ok (.invokestatic 48, 3) := by decide +kernel
theorem dX2_isAsked_16 : decode cX2_isAsked 16 = .ok (.ifCond .eq 7, 3) := by decide +kernel
theorem dX2_isAsked_19 : decode cX2_isAsked 19 = .ok (.iconst 0, 1) := by decide +kernel
theorem dX2_isAsked_20 : decode cX2_isAsked 20 = .ok (.goto 4, 3) := by decide +kernel
theorem dX2_isAsked_23 : decode cX2_isAsked 23 = .ok (.iconst 1, 1) := by decide +kernel
theorem dX2_isAsked_24 : decode cX2_isAsked 24 = .ok (.putfield 41, 3) := by decide +kernel
theorem dX2_isAsked_27 : decode cX2_isAsked 27 = .ok (.aload_n 0, 1) := by decide +kernel
theorem dX2_isAsked_28 : decode cX2_isAsked 28 = .ok (.getfield 41, 3) := by decide +kernel
theorem dX2_isAsked_31 : decode cX2_isAsked 31 = .ok (.ifCond .ne 7, 3) := by decide +kernel
theorem dX2_isAsked_34 : decode cX2_isAsked 34 = .ok (.iconst 1, 1) := by decide +kernel
theorem dX2_isAsked_35 : decode cX2_isAsked 35 = .ok (.goto 4, 3) := by decide +kernel
theorem dX2_isAsked_38 : decode cX2_isAsked 38 = .ok (.iconst 0, 1) := by decide +kernel
theorem dX2_isAsked_39 : decode cX2_isAsked 39 = .ok (.ireturn, 1) := by decide +kernel
theorem dX2_lowest_0 : decode cX2_lowest 0 = .ok (.iload_n 0, 1) := by decide +kernel
theorem dX2_lowest_1 : decode cX2_lowest 1 = .ok (.ifCond .ne 7, 3) := by decide +kernel
theorem dX2_lowest_4 : decode cX2_lowest 4 = .ok (.iconst 1, 1) := by decide +kernel
theorem dX2_lowest_5 : decode cX2_lowest 5 = .ok (.goto 4, 3) := by decide +kernel
theorem dX2_lowest_8 : decode cX2_lowest 8 = .ok (.iconst 0, 1) := by decide +kernel
theorem dX2_lowest_9 : decode cX2_lowest 9 = .ok (.ireturn, 1) := by decide +kernel
theorem dX2_greatest_0 : decode cX2_greatest 0 = .ok (.iload_n 0, 1) := by decide +kernel
theorem dX2_greatest_1 : decode cX2_greatest 1 = .ok (.ifCond .ne 7, 3) := by decide +kernel
theorem dX2_greatest_4 : decode cX2_greatest 4 = .ok (.iconst 2, 1) := by decide +kernel
theorem dX2_greatest_5 : decode cX2_greatest 5 = .ok (.goto 25, 3) := by decide +kernel
theorem dX2_greatest_8 : decode cX2_greatest 8 = .ok (.iload_n 0, 1) := by decide +kernel
theorem dX2_greatest_9 : decode cX2_greatest 9 = .ok (.iconst 1, 1) := by decide +kernel
theorem dX2_greatest_10 : decode cX2_greatest 10 = .ok (.if_icmp .ne 8, 3) := by decide +kernel
theorem dX2_greatest_13 : decode cX2_greatest 13 = .ok (.bipush 9, 2) := by decide +kernel
theorem dX2_greatest_15 : decode cX2_greatest 15 = .ok (.goto 15, 3) := by decide +kernel
theorem dX2_greatest_18 : decode cX2_greatest 18 = .ok (.iload_n 0, 1) := by decide +kernel
theorem dX2_greatest_19 : decode cX2_greatest 19 = .ok (.iconst 4, 1) := by decide +kernel
theorem dX2_greatest_20 : decode cX2_greatest 20 = .ok (.if_icmp .ne 8, 3) := by decide +kernel
theorem dX2_greatest_23 : decode cX2_greatest 23 = .ok (.ldc 56, 2) := by decide +kernel
theorem dX2_greatest_25 : decode cX2_greatest 25 = .ok (.goto 5, 3) := by decide +kernel
theorem dX2_greatest_28 : decode cX2_greatest 28 = .ok (.ldc 57, 2) := by decide +kernel
theorem dX2_greatest_30 : decode cX2_greatest 30 = .ok (.ireturn, 1) := by decide +kernel
set_option maxRecDepth 20000 in
theorem ggX2_factOf_X2_lowest : GoodIn wsX2_factOf wsX2_lowest := goodIn_r _ [8] (by decide +kernel) (by decide +kernel)
set_option maxRecDepth 20000 in
theorem gX2_factOf_X2_lowest : GoodIn wsX2_factOf (va_wsS RX2 58 yX2_lowest wsX2_lowest) := goodIn_app (goodIn_of _ (by decide +kernel)) ggX2_factOf_X2_lowest
theorem dX2_factOf_0 : decode cX2_factOf 0 = .ok (.iload_n 2, 1) := by decide +kernel
theorem dX2_factOf_1 : decode cX2_factOf 1 = .ok (.invokestatic 58, 3) := by decide +kernel
theorem dX2_factOf_4 : decode cX2_factOf 4 = .ok (.istore 4, 2) := by decide +kernel
theorem dX2_factOf_6 : decode cX2_factOf 6 = .ok (.iconst (-1), 1) := by decide +kernel
theorem dX2_factOf_7 : decode cX2_factOf 7 = .ok (.istore 5, 2) := by decide +kernel
theorem dX2_factOf_9 : decode cX2_factOf 9 = .ok (.bipush 100, 2) := by decide +kernel
theorem dX2_factOf_11 : decode cX2_factOf 11 = .ok (.iload_n 1, 1) := by decide +kernel
theorem dX2_factOf_12 : decode cX2_factOf 12 = .ok (.imul, 1) := by decide +kernel
theorem dX2_factOf_13 : decode cX2_factOf 13 = .ok (.istore 6, 2) := by decide +kernel
theorem dX2_factOf_15 : decode cX2_factOf 15 = .ok (.iload 6, 2) := by decide +kernel
theorem dX2_factOf_17 : decode cX2_factOf 17 = .ok (.bipush 100, 2) := by decide +kernel
theorem dX2_factOf_19 : decode cX2_factOf 19 = .ok (.iload_n 1, 1) := by decide +kernel
theorem dX2_factOf_20 : decode cX2_factOf 20 = .ok (.imul, 1) := by decide +kernel
theorem dX2_factOf_21 : decode cX2_factOf 21 = .ok (.aload_n 0, 1) := by decide +kernel
theorem dX2_factOf_22 : decode cX2_factOf 22 = .ok (.getfield 13, 3) := by decide +kernel
theorem dX2_factOf_25 : decode cX2_factOf 25 = .ok (.iload_n 1, 1) := by decide +kernel
theorem dX2_factOf_26 : decode cX2_factOf 26 = .ok (.iaload, 1) := by decide +kernel
theorem dX2_factOf_27 : decode cX2_factOf 27 = .ok (.iadd, 1) := by decide +kernel
theorem dX2_factOf_28 : decode cX2_factOf 28 = .ok (.if_icmp .ge 88, 3) := by decide +kernel
theorem dX2_factOf_31 : decode cX2_factOf 31 = .ok (.aload_n 0, 1) := by decide +kernel
theorem dX2_factOf_32 : decode cX2_factOf 32 = .ok (.getfield 16, 3) := by decide +kernel
theorem dX2_factOf_35 : decode cX2_factOf 35 = .ok (.iload 6, 2) := by decide +kernel
theorem dX2_factOf_37 : decode cX2_factOf 37 = .ok (.iaload, 1) := by decide +kernel
theorem dX2_factOf_38 : decode cX2_factOf 38 = .ok (.iload_n 2, 1) := by decide +kernel
theorem dX2_factOf_39 : decode cX2_factOf 39 = .ok (.if_icmp .ne 30, 3) := by decide +kernel
theorem dX2_factOf_42 : decode cX2_factOf 42 = .ok (.aload_n 0, 1) := by decide +kernel
theorem dX2_factOf_43 : decode cX2_factOf 43 = .ok (.getfield 19, 3) := by decide +kernel
