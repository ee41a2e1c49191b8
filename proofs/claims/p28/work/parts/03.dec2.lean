set_option maxRecDepth 20000 in
theorem ggX3_init_X2_init : GoodIn wsX3_init wsX2_init := goodIn_r _ [19, 20, 2, 3, 21, 22, 23, 24, 25, 26, 27, 28, 29, 30, 31, 32, 33, 34, 35, 49, 50, 51, 52, 53, 54, 55, 56, 57, 58, 59, 60, 61] (by decide +kernel) (by decide +kernel)
set_option maxRecDepth 20000 in
theorem gX3_init_X2_init_n9 : GoodIn wsX3_init (wsX2_init) := ggX3_init_X2_init
set_option maxRecDepth 20000 in
theorem ggX3_init_X0_init : GoodIn wsX3_init wsX0_init := goodIn_r _ [37, 38, 2, 3, 39, 40, 41, 42, 67, 68, 69] (by decide +kernel) (by decide +kernel)
set_option maxRecDepth 20000 in
theorem gX3_init_X0_init_n21 : GoodIn wsX3_init (wsX0_init) := ggX3_init_X0_init
set_option maxRecDepth 20000 in
theorem ggX3_init_X1_init : GoodIn wsX3_init wsX1_init := goodIn_r _ [44, 45, 2, 3, 46, 47, 48, 70, 71] (by decide +kernel) (by decide +kernel)
set_option maxRecDepth 20000 in
theorem gX3_init_X1_init_n32 : GoodIn wsX3_init (wsX1_init) := ggX3_init_X1_init
theorem dX3_init_0 : decode cX3_init 0 = .ok (.aload_n 0, 1) := by decide +kernel
theorem dX3_init_1 : decode cX3_init 1 = .ok (.invokespecial 1, 3) := by decide +kernel
theorem dX3_init_4 : decode cX3_init 4 = .ok (.aload_n 0, 1) := by decide +kernel
theorem dX3_init_5 : decode cX3_init 5 = .ok (.new 7, 3) := by decide +kernel
theorem dX3_init_8 : decode cX3_init 8 = .ok (.dup, 1) := by decide +kernel
theorem dX3_init_9 : decode cX3_init 9 = .ok (.invokespecial 9, 3) := by decide +kernel
theorem dX3_init_12 : decode cX3_init 12 = .ok (.putfield 10, 3) := by decide +kernel
theorem dX3_init_15 : decode cX3_init 15 = .ok (.aload_n 0, 1) := by decide +kernel
theorem dX3_init_16 : decode cX3_init 16 = .ok (.new 7, 3) := by decide +kernel
theorem dX3_init_19 : decode cX3_init 19 = .ok (.dup, 1) := by decide +kernel
theorem dX3_init_20 : decode cX3_init 20 = .ok (.invokespecial 9, 3) := by decide +kernel
theorem dX3_init_23 : decode cX3_init 23 = .ok (.putfield 16, 3) := by decide +kernel
theorem dX3_init_26 : decode cX3_init 26 = .ok (.aload_n 0, 1) := by decide +kernel
theorem dX3_init_27 : decode cX3_init 27 = .ok (.new 19, 3) := by decide +kernel
theorem dX3_init_30 : decode cX3_init 30 = .ok (.dup, 1) := by decide +kernel
theorem dX3_init_31 : decode cX3_init 31 = .ok (.invokespecial 21, 3) := by decide +kernel
theorem dX3_init_34 : decode cX3_init 34 = .ok (.putfield 22, 3) := by decide +kernel
theorem dX3_init_37 : decode cX3_init 37 = .ok (.aload_n 0, 1) := by decide +kernel
theorem dX3_init_38 : decode cX3_init 38 = .ok (.iconst 2, 1) := by decide +kernel
theorem dX3_init_39 : decode cX3_init 39 = .ok (.anewarray 7, 3) := by decide +kernel
theorem dX3_init_42 : decode cX3_init 42 = .ok (.putfield 26, 3) := by decide +kernel
theorem dX3_init_45 : decode cX3_init 45 = .ok (.aload_n 0, 1) := by decide +kernel
theorem dX3_init_46 : decode cX3_init 46 = .ok (.new 30, 3) := by decide +kernel
theorem dX3_init_49 : decode cX3_init 49 = .ok (.dup, 1) := by decide +kernel
theorem dX3_init_50 : decode cX3_init 50 = .ok (.invokespecial 32, 3) := by decide +kernel
theorem dX3_init_53 : decode cX3_init 53 = .ok (.putfield 33, 3) := by decide +kernel
theorem dX3_init_56 : decode cX3_init 56 = .ok (.return_, 1) := by decide +kernel
set_option maxRecDepth 20000 in
theorem ggX3_set_X0_keep : GoodIn wsX3_set wsX0_keep := goodIn_r _ [11, 12, 13, 14, 15, 16, 17, 18, 19, 20, 21, 22, 23, 24, 25, 26, 27, 28, 29, 30, 31, 32, 33, 34, 35, 36, 37, 38, 39, 40, 41, 42, 43, 44, 45, 46, 47, 48, 49, 50, 51, 52, 53, 72, 73, 74, 59, 60, 61, 62, 63, 64, 65, 66, 67, 68, 69, 70, 71] (by decide +kernel) (by decide +kernel)
set_option maxRecDepth 20000 in
theorem gX3_set_X0_keep : GoodIn wsX3_set (wsV RX3 45 RX0 yX0_keep wsX0_keep) := goodIn_app (goodIn_of _ (by decide +kernel)) ggX3_set_X0_keep
theorem dX3_set_0 : decode cX3_set 0 = .ok (.iload_n 1, 1) := by decide +kernel
theorem dX3_set_1 : decode cX3_set 1 = .ok (.ifCond .lt 8, 3) := by decide +kernel
theorem dX3_set_4 : decode cX3_set 4 = .ok (.iload_n 1, 1) := by decide +kernel
theorem dX3_set_5 : decode cX3_set 5 = .ok (.iconst 4, 1) := by decide +kernel
theorem dX3_set_6 : decode cX3_set 6 = .ok (.if_icmp .lt 6, 3) := by decide +kernel
theorem dX3_set_9 : decode cX3_set 9 = .ok (.ldc 37, 2) := by decide +kernel
theorem dX3_set_11 : decode cX3_set 11 = .ok (.ireturn, 1) := by decide +kernel
theorem dX3_set_12 : decode cX3_set 12 = .ok (.iload_n 2, 1) := by decide +kernel
theorem dX3_set_13 : decode cX3_set 13 = .ok (.getstatic 38, 3) := by decide +kernel
theorem dX3_set_16 : decode cX3_set 16 = .ok (.iload_n 1, 1) := by decide +kernel
theorem dX3_set_17 : decode cX3_set 17 = .ok (.iaload, 1) := by decide +kernel
theorem dX3_set_18 : decode cX3_set 18 = .ok (.if_icmp .lt 12, 3) := by decide +kernel
theorem dX3_set_21 : decode cX3_set 21 = .ok (.iload_n 2, 1) := by decide +kernel
theorem dX3_set_22 : decode cX3_set 22 = .ok (.getstatic 42, 3) := by decide +kernel
theorem dX3_set_25 : decode cX3_set 25 = .ok (.iload_n 1, 1) := by decide +kernel
theorem dX3_set_26 : decode cX3_set 26 = .ok (.iaload, 1) := by decide +kernel
theorem dX3_set_27 : decode cX3_set 27 = .ok (.if_icmp .le 6, 3) := by decide +kernel
theorem dX3_set_30 : decode cX3_set 30 = .ok (.ldc 37, 2) := by decide +kernel
theorem dX3_set_32 : decode cX3_set 32 = .ok (.ireturn, 1) := by decide +kernel
theorem dX3_set_33 : decode cX3_set 33 = .ok (.aload_n 0, 1) := by decide +kernel
theorem dX3_set_34 : decode cX3_set 34 = .ok (.getfield 22, 3) := by decide +kernel
theorem dX3_set_37 : decode cX3_set 37 = .ok (.aload_n 0, 1) := by decide +kernel
theorem dX3_set_38 : decode cX3_set 38 = .ok (.getfield 10, 3) := by decide +kernel
theorem dX3_set_41 : decode cX3_set 41 = .ok (.invokevirtual 45, 3) := by decide +kernel
theorem dX3_set_44 : decode cX3_set 44 = .ok (.aload_n 0, 1) := by decide +kernel
theorem dX3_set_45 : decode cX3_set 45 = .ok (.getfield 10, 3) := by decide +kernel
theorem dX3_set_48 : decode cX3_set 48 = .ok (.getfield 49, 3) := by decide +kernel
theorem dX3_set_51 : decode cX3_set 51 = .ok (.iload_n 1, 1) := by decide +kernel
theorem dX3_set_52 : decode cX3_set 52 = .ok (.iaload, 1) := by decide +kernel
theorem dX3_set_53 : decode cX3_set 53 = .ok (.istore_n 3, 1) := by decide +kernel
theorem dX3_set_54 : decode cX3_set 54 = .ok (.aload_n 0, 1) := by decide +kernel
theorem dX3_set_55 : decode cX3_set 55 = .ok (.getfield 10, 3) := by decide +kernel
theorem dX3_set_58 : decode cX3_set 58 = .ok (.getfield 49, 3) := by decide +kernel
theorem dX3_set_61 : decode cX3_set 61 = .ok (.iload_n 1, 1) := by decide +kernel
theorem dX3_set_62 : decode cX3_set 62 = .ok (.iload_n 2, 1) := by decide +kernel
theorem dX3_set_63 : decode cX3_set 63 = .ok (.iastore, 1) := by decide +kernel
theorem dX3_set_64 : decode cX3_set 64 = .ok (.iload_n 3, 1) := by decide +kernel
theorem dX3_set_65 : decode cX3_set 65 = .ok (.ireturn, 1) := by decide +kernel
set_option maxRecDepth 20000 in
theorem ggX3_coins_X3_isPlayer : GoodIn wsX3_coins wsX3_isPlayer := goodIn_r _ [10] (by decide +kernel) (by decide +kernel)
set_option maxRecDepth 20000 in
theorem gX3_coins_X3_isPlayer : GoodIn wsX3_coins (va_wsS RX3 52 yX3_isPlayer wsX3_isPlayer) := goodIn_app (goodIn_of _ (by decide +kernel)) ggX3_coins_X3_isPlayer
set_option maxRecDepth 20000 in
theorem ggX3_coins_X2_hasToCover : GoodIn wsX3_coins wsX2_hasToCover := goodIn_r _ [15, 16, 17, 18, 19, 20, 21, 22, 8, 9, 10, 70, 71, 72, 73, 74, 75, 76, 77, 78, 79, 80, 81, 82] (by decide +kernel) (by decide +kernel)
set_option maxRecDepth 20000 in
theorem gX3_coins_X2_hasToCover : GoodIn wsX3_coins (wsV RX3 57 RX2 yX2_hasToCover wsX2_hasToCover) := goodIn_app (goodIn_of _ (by decide +kernel)) ggX3_coins_X2_hasToCover
set_option maxRecDepth 20000 in
theorem ggX3_coins_X0_keep : GoodIn wsX3_coins wsX0_keep := goodIn_r _ [27, 28, 29, 30, 31, 14, 32, 33, 34, 21, 35, 36, 37, 38, 39, 40, 41, 42, 43, 44, 45, 46, 47, 48, 49, 50, 17, 18, 16, 51, 52, 53, 54, 55, 56, 57, 58, 59, 60, 61, 62, 63, 64, 83, 84, 85, 70, 71, 72, 73, 74, 75, 76, 77, 78, 79, 80, 81, 82] (by decide +kernel) (by decide +kernel)
set_option maxRecDepth 20000 in
theorem gX3_coins_X0_keep : GoodIn wsX3_coins (wsV RX3 45 RX0 yX0_keep wsX0_keep) := goodIn_app (goodIn_of _ (by decide +kernel)) ggX3_coins_X0_keep
theorem dX3_coins_0 : decode cX3_coins 0 = .ok (.iload_n 1, 1) := by decide +kernel
theorem dX3_coins_1 : decode cX3_coins 1 = .ok (.invokestatic 52, 3) := by decide +kernel
theorem dX3_coins_4 : decode cX3_coins 4 = .ok (.ifCond .ne 6, 3) := by decide +kernel
theorem dX3_coins_7 : decode cX3_coins 7 = .ok (.ldc 56, 2) := by decide +kernel
theorem dX3_coins_9 : decode cX3_coins 9 = .ok (.ireturn, 1) := by decide +kernel
theorem dX3_coins_10 : decode cX3_coins 10 = .ok (.iload_n 2, 1) := by decide +kernel
theorem dX3_coins_11 : decode cX3_coins 11 = .ok (.ifCond .lt 10, 3) := by decide +kernel
theorem dX3_coins_14 : decode cX3_coins 14 = .ok (.iload_n 2, 1) := by decide +kernel
theorem dX3_coins_15 : decode cX3_coins 15 = .ok (.sipush 9999, 3) := by decide +kernel
theorem dX3_coins_18 : decode cX3_coins 18 = .ok (.if_icmp .le 6, 3) := by decide +kernel
theorem dX3_coins_21 : decode cX3_coins 21 = .ok (.ldc 37, 2) := by decide +kernel
theorem dX3_coins_23 : decode cX3_coins 23 = .ok (.ireturn, 1) := by decide +kernel
theorem dX3_coins_24 : decode cX3_coins 24 = .ok (.aload_n 0, 1) := by decide +kernel
theorem dX3_coins_25 : decode cX3_coins 25 = .ok (.getfield 10, 3) := by decide +kernel
theorem dX3_coins_28 : decode cX3_coins 28 = .ok (.iload_n 1, 1) := by decide +kernel
theorem dX3_coins_29 : decode cX3_coins 29 = .ok (.invokevirtual 57, 3) := by decide +kernel
theorem dX3_coins_32 : decode cX3_coins 32 = .ok (.iload_n 2, 1) := by decide +kernel
theorem dX3_coins_33 : decode cX3_coins 33 = .ok (.if_icmp .le 6, 3) := by decide +kernel
theorem dX3_coins_36 : decode cX3_coins 36 = .ok (.ldc 61, 2) := by decide +kernel
theorem dX3_coins_38 : decode cX3_coins 38 = .ok (.ireturn, 1) := by decide +kernel
theorem dX3_coins_39 : decode cX3_coins 39 = .ok (.aload_n 0, 1) := by decide +kernel
theorem dX3_coins_40 : decode cX3_coins 40 = .ok (.getfield 22, 3) := by decide +kernel
theorem dX3_coins_43 : decode cX3_coins 43 = .ok (.aload_n 0, 1) := by decide +kernel
theorem dX3_coins_44 : decode cX3_coins 44 = .ok (.getfield 10, 3) := by decide +kernel
theorem dX3_coins_47 : decode cX3_coins 47 = .ok (.invokevirtual 45, 3) := by decide +kernel
theorem dX3_coins_50 : decode cX3_coins 50 = .ok (.aload_n 0, 1) := by decide +kernel
theorem dX3_coins_51 : decode cX3_coins 51 = .ok (.getfield 10, 3) := by decide +kernel
theorem dX3_coins_54 : decode cX3_coins 54 = .ok (.getfield 62, 3) := by decide +kernel
theorem dX3_coins_57 : decode cX3_coins 57 = .ok (.iload_n 1, 1) := by decide +kernel
theorem dX3_coins_58 : decode cX3_coins 58 = .ok (.iaload, 1) := by decide +kernel
theorem dX3_coins_59 : decode cX3_coins 59 = .ok (.istore_n 3, 1) := by decide +kernel
theorem dX3_coins_60 : decode cX3_coins 60 = .ok (.aload_n 0, 1) := by decide +kernel
theorem dX3_coins_61 : decode cX3_coins 61 = .ok (.getfield 10, 3) := by decide +kernel
theorem dX3_coins_64 : decode cX3_coins 64 = .ok (.getfield 62, 3) := by decide +kernel
theorem dX3_coins_67 : decode cX3_coins 67 = .ok (.iload_n 1, 1) := by decide +kernel
theorem dX3_coins_68 : decode cX3_coins 68 = .ok (.iload_n 2, 1) := by decide +kernel
theorem dX3_coins_69 : decode cX3_coins 69 = .ok (.iastore, 1) := by decide +kernel
theorem dX3_coins_70 : decode cX3_coins 70 = .ok (.iload_n 3, 1) := by decide +kernel
theorem dX3_coins_71 : decode cX3_coins 71 = .ok (.ireturn, 1) := by decide +kernel
set_option maxRecDepth 20000 in
theorem ggX3_limit_X3_isPlayer : GoodIn wsX3_limit wsX3_isPlayer := goodIn_r _ [9] (by decide +kernel) (by decide +kernel)
set_option maxRecDepth 20000 in
theorem gX3_limit_X3_isPlayer : GoodIn wsX3_limit (va_wsS RX3 52 yX3_isPlayer wsX3_isPlayer) := goodIn_app (goodIn_of _ (by decide +kernel)) ggX3_limit_X3_isPlayer
set_option maxRecDepth 20000 in
theorem ggX3_limit_X0_keep : GoodIn wsX3_limit wsX0_keep := goodIn_r _ [14, 15, 16, 17, 18, 19, 20, 21, 22, 23, 24, 25, 26, 27, 28, 29, 30, 31, 32, 33, 34, 35, 36, 37, 38, 39, 40, 41, 42, 43, 44, 45, 46, 47, 48, 49, 50, 51, 52, 53, 54, 55, 56, 75, 76, 77, 62, 63, 64, 65, 66, 67, 68, 69, 70, 71, 72, 73, 74] (by decide +kernel) (by decide +kernel)
set_option maxRecDepth 20000 in
theorem gX3_limit_X0_keep : GoodIn wsX3_limit (wsV RX3 45 RX0 yX0_keep wsX0_keep) := goodIn_app (goodIn_of _ (by decide +kernel)) ggX3_limit_X0_keep
theorem dX3_limit_0 : decode cX3_limit 0 = .ok (.iload_n 1, 1) := by decide +kernel
theorem dX3_limit_1 : decode cX3_limit 1 = .ok (.invokestatic 52, 3) := by decide +kernel
theorem dX3_limit_4 : decode cX3_limit 4 = .ok (.ifCond .ne 6, 3) := by decide +kernel
theorem dX3_limit_7 : decode cX3_limit 7 = .ok (.ldc 56, 2) := by decide +kernel
theorem dX3_limit_9 : decode cX3_limit 9 = .ok (.ireturn, 1) := by decide +kernel
theorem dX3_limit_10 : decode cX3_limit 10 = .ok (.iload_n 2, 1) := by decide +kernel
theorem dX3_limit_11 : decode cX3_limit 11 = .ok (.ifCond .lt 9, 3) := by decide +kernel
theorem dX3_limit_14 : decode cX3_limit 14 = .ok (.iload_n 2, 1) := by decide +kernel
theorem dX3_limit_15 : decode cX3_limit 15 = .ok (.bipush 99, 2) := by decide +kernel
theorem dX3_limit_17 : decode cX3_limit 17 = .ok (.if_icmp .le 6, 3) := by decide +kernel
theorem dX3_limit_20 : decode cX3_limit 20 = .ok (.ldc 37, 2) := by decide +kernel
theorem dX3_limit_22 : decode cX3_limit 22 = .ok (.ireturn, 1) := by decide +kernel
theorem dX3_limit_23 : decode cX3_limit 23 = .ok (.aload_n 0, 1) := by decide +kernel
theorem dX3_limit_24 : decode cX3_limit 24 = .ok (.getfield 22, 3) := by decide +kernel
theorem dX3_limit_27 : decode cX3_limit 27 = .ok (.aload_n 0, 1) := by decide +kernel
theorem dX3_limit_28 : decode cX3_limit 28 = .ok (.getfield 10, 3) := by decide +kernel
theorem dX3_limit_31 : decode cX3_limit 31 = .ok (.invokevirtual 45, 3) := by decide +kernel
theorem dX3_limit_34 : decode cX3_limit 34 = .ok (.aload_n 0, 1) := by decide +kernel
theorem dX3_limit_35 : decode cX3_limit 35 = .ok (.getfield 10, 3) := by decide +kernel
theorem dX3_limit_38 : decode cX3_limit 38 = .ok (.getfield 65, 3) := by decide +kernel
theorem dX3_limit_41 : decode cX3_limit 41 = .ok (.iload_n 1, 1) := by decide +kernel
theorem dX3_limit_42 : decode cX3_limit 42 = .ok (.iaload, 1) := by decide +kernel
theorem dX3_limit_43 : decode cX3_limit 43 = .ok (.istore_n 3, 1) := by decide +kernel
theorem dX3_limit_44 : decode cX3_limit 44 = .ok (.aload_n 0, 1) := by decide +kernel
theorem dX3_limit_45 : decode cX3_limit 45 = .ok (.getfield 10, 3) := by decide +kernel
theorem dX3_limit_48 : decode cX3_limit 48 = .ok (.getfield 65, 3) := by decide +kernel
theorem dX3_limit_51 : decode cX3_limit 51 = .ok (.iload_n 1, 1) := by decide +kernel
theorem dX3_limit_52 : decode cX3_limit 52 = .ok (.iload_n 2, 1) := by decide +kernel
theorem dX3_limit_53 : decode cX3_limit 53 = .ok (.iastore, 1) := by decide +kernel
theorem dX3_limit_54 : decode cX3_limit 54 = .ok (.iload_n 3, 1) := by decide +kernel
theorem dX3_limit_55 : decode cX3_limit 55 = .ok (.ireturn, 1) := by decide +kernel
set_option maxRecDepth 20000 in
theorem ggX3_prize_X3_isPrize : GoodIn wsX3_prize wsX3_isPrize := goodIn_r _ [9] (by decide +kernel) (by decide +kernel)
set_option maxRecDepth 20000 in
theorem gX3_prize_X3_isPrize : GoodIn wsX3_prize (va_wsS RX3 68 yX3_isPrize wsX3_isPrize) := goodIn_app (goodIn_of _ (by decide +kernel)) ggX3_prize_X3_isPrize
set_option maxRecDepth 20000 in
theorem ggX3_prize_X0_keep : GoodIn wsX3_prize wsX0_keep := goodIn_r _ [14, 15, 16, 17, 18, 19, 20, 21, 22, 23, 24, 25, 26, 27, 28, 29, 30, 31, 32, 33, 34, 35, 36, 37, 38, 39, 40, 41, 42, 43, 44, 45, 46, 47, 48, 49, 50, 51, 52, 53, 54, 55, 56, 75, 76, 77, 62, 63, 64, 65, 66, 67, 68, 69, 70, 71, 72, 73, 74] (by decide +kernel) (by decide +kernel)
set_option maxRecDepth 20000 in
theorem gX3_prize_X0_keep : GoodIn wsX3_prize (wsV RX3 45 RX0 yX0_keep wsX0_keep) := goodIn_app (goodIn_of _ (by decide +kernel)) ggX3_prize_X0_keep
theorem dX3_prize_0 : decode cX3_prize 0 = .ok (.iload_n 1, 1) := by decide +kernel
theorem dX3_prize_1 : decode cX3_prize 1 = .ok (.invokestatic 68, 3) := by decide +kernel
theorem dX3_prize_4 : decode cX3_prize 4 = .ok (.ifCond .ne 6, 3) := by decide +kernel
theorem dX3_prize_7 : decode cX3_prize 7 = .ok (.ldc 56, 2) := by decide +kernel
theorem dX3_prize_9 : decode cX3_prize 9 = .ok (.ireturn, 1) := by decide +kernel
theorem dX3_prize_10 : decode cX3_prize 10 = .ok (.iload_n 2, 1) := by decide +kernel
theorem dX3_prize_11 : decode cX3_prize 11 = .ok (.ifCond .lt 9, 3) := by decide +kernel
theorem dX3_prize_14 : decode cX3_prize 14 = .ok (.iload_n 2, 1) := by decide +kernel
theorem dX3_prize_15 : decode cX3_prize 15 = .ok (.bipush 99, 2) := by decide +kernel
theorem dX3_prize_17 : decode cX3_prize 17 = .ok (.if_icmp .le 6, 3) := by decide +kernel
theorem dX3_prize_20 : decode cX3_prize 20 = .ok (.ldc 37, 2) := by decide +kernel
theorem dX3_prize_22 : decode cX3_prize 22 = .ok (.ireturn, 1) := by decide +kernel
theorem dX3_prize_23 : decode cX3_prize 23 = .ok (.aload_n 0, 1) := by decide +kernel
theorem dX3_prize_24 : decode cX3_prize 24 = .ok (.getfield 22, 3) := by decide +kernel
theorem dX3_prize_27 : decode cX3_prize 27 = .ok (.aload_n 0, 1) := by decide +kernel
theorem dX3_prize_28 : decode cX3_prize 28 = .ok (.getfield 10, 3) := by decide +kernel
theorem dX3_prize_31 : decode cX3_prize 31 = .ok (.invokevirtual 45, 3) := by decide +kernel
theorem dX3_prize_34 : decode cX3_prize 34 = .ok (.aload_n 0, 1) := by decide +kernel
theorem dX3_prize_35 : decode cX3_prize 35 = .ok (.getfield 10, 3) := by decide +kernel
theorem dX3_prize_38 : decode cX3_prize 38 = .ok (.getfield 71, 3) := by decide +kernel
theorem dX3_prize_41 : decode cX3_prize 41 = .ok (.iload_n 1, 1) := by decide +kernel
theorem dX3_prize_42 : decode cX3_prize 42 = .ok (.iaload, 1) := by decide +kernel
theorem dX3_prize_43 : decode cX3_prize 43 = .ok (.istore_n 3, 1) := by decide +kernel
theorem dX3_prize_44 : decode cX3_prize 44 = .ok (.aload_n 0, 1) := by decide +kernel
theorem dX3_prize_45 : decode cX3_prize 45 = .ok (.getfield 10, 3) := by decide +kernel
theorem dX3_prize_48 : decode cX3_prize 48 = .ok (.getfield 71, 3) := by decide +kernel
theorem dX3_prize_51 : decode cX3_prize 51 = .ok (.iload_n 1, 1) := by decide +kernel
theorem dX3_prize_52 : decode cX3_prize 52 = .ok (.iload_n 2, 1) := by decide +kernel
theorem dX3_prize_53 : decode cX3_prize 53 = .ok (.iastore, 1) := by decide +kernel
theorem dX3_prize_54 : decode cX3_prize 54 = .ok (.iload_n 3, 1) := by decide +kernel
theorem dX3_prize_55 : decode cX3_prize 55 = .ok (.ireturn, 1) := by decide +kernel
set_option maxRecDepth 20000 in
theorem ggX3_begin_X0_keep : GoodIn wsX3_begin wsX0_keep := goodIn_r _ [9, 10, 11, 12, 13, 14, 15, 16, 17, 18, 19, 20, 21, 22, 23, 24, 25, 26, 27, 28, 29, 30, 31, 32, 33, 34, 35, 36, 37, 38, 39, 40, 41, 42, 43, 44, 45, 46, 47, 48, 49, 50, 51, 78, 79, 80, 65, 66, 67, 68, 69, 70, 71, 72, 73, 74, 75, 76, 77] (by decide +kernel) (by decide +kernel)
set_option maxRecDepth 20000 in
theorem gX3_begin_X0_keep : GoodIn wsX3_begin (wsV RX3 45 RX0 yX0_keep wsX0_keep) := goodIn_app (goodIn_of _ (by decide +kernel)) ggX3_begin_X0_keep
set_option maxRecDepth 20000 in
theorem ggX3_begin_X2_start : GoodIn wsX3_begin wsX2_start := goodIn_r _ [55, 41, 42, 56, 57, 58, 14, 59, 34, 35, 65, 66, 67, 68, 69, 70, 71, 72, 73, 74, 75, 76, 77] (by decide +kernel) (by decide +kernel)
set_option maxRecDepth 20000 in
theorem gX3_begin_X2_start : GoodIn wsX3_begin (wsV RX3 78 RX2 yX2_start wsX2_start) := goodIn_app (goodIn_of _ (by decide +kernel)) ggX3_begin_X2_start
theorem dX3_begin_0 : decode cX3_begin 0 = .ok (.aload_n 0, 1) := by decide +kernel
theorem dX3_begin_1 : decode cX3_begin 1 = .ok (.getfield 10, 3) := by decide +kernel
theorem dX3_begin_4 : decode cX3_begin 4 = .ok (.getfield 74, 3) := by decide +kernel
theorem dX3_begin_7 : decode cX3_begin 7 = .ok (.ifCond .eq 6, 3) := by decide +kernel
theorem dX3_begin_10 : decode cX3_begin 10 = .ok (.ldc 61, 2) := by decide +kernel
theorem dX3_begin_12 : decode cX3_begin 12 = .ok (.ireturn, 1) := by decide +kernel
theorem dX3_begin_13 : decode cX3_begin 13 = .ok (.aload_n 0, 1) := by decide +kernel
theorem dX3_begin_14 : decode cX3_begin 14 = .ok (.getfield 22, 3) := by decide +kernel
theorem dX3_begin_17 : decode cX3_begin 17 = .ok (.aload_n 0, 1) := by decide +kernel
theorem dX3_begin_18 : decode cX3_begin 18 = .ok (.getfield 10, 3) := by decide +kernel
theorem dX3_begin_21 : decode cX3_begin 21 = .ok (.invokevirtual 45, 3) := by decide +kernel
theorem dX3_begin_24 : decode cX3_begin 24 = .ok (.aload_n 0, 1) := by decide +kernel
theorem dX3_begin_25 : decode cX3_begin 25 = .ok (.getfield 10, 3) := by decide +kernel
theorem dX3_begin_28 : decode cX3_begin 28 = .ok (.invokevirtual 78, 3) := by decide +kernel
theorem dX3_begin_31 : decode cX3_begin 31 = .ok (.ireturn, 1) := by decide +kernel
set_option maxRecDepth 20000 in
theorem ggX3_bid_X2_mayBid : GoodIn wsX3_bid wsX2_mayBid := goodIn_r _ [9, 10, 11, 12, 13, 14, 15, 16, 17, 18, 8, 19, 20, 21, 22, 23, 24, 25, 26, 84, 85, 86, 87, 88, 89, 90, 91, 92, 93, 94, 95, 96] (by decide +kernel) (by decide +kernel)
set_option maxRecDepth 20000 in
theorem gX3_bid_X2_mayBid : GoodIn wsX3_bid (wsV RX3 82 RX2 yX2_mayBid wsX2_mayBid) := goodIn_app (goodIn_of _ (by decide +kernel)) ggX3_bid_X2_mayBid
set_option maxRecDepth 20000 in
theorem ggX3_bid_X0_keep : GoodIn wsX3_bid wsX0_keep := goodIn_r _ [31, 32, 33, 34, 35, 8, 36, 37, 38, 39, 40, 41, 42, 43, 44, 45, 46, 47, 48, 49, 50, 21, 51, 12, 52, 53, 20, 26, 54, 55, 56, 57, 10, 11, 58, 59, 60, 61, 62, 63, 64, 65, 66, 97, 98, 99, 84, 85, 86, 87, 88, 89, 90, 91, 92, 93, 94, 95, 96] (by decide +kernel) (by decide +kernel)
set_option maxRecDepth 20000 in
theorem gX3_bid_X0_keep : GoodIn wsX3_bid (wsV RX3 45 RX0 yX0_keep wsX0_keep) := goodIn_app (goodIn_of _ (by decide +kernel)) ggX3_bid_X0_keep
set_option maxRecDepth 20000 in
theorem ggX3_bid_X2_takeBid : GoodIn wsX3_bid wsX2_takeBid := goodIn_r _ [70, 11, 26, 13, 14, 15, 71, 72, 73, 8, 74, 53, 54, 20, 75, 76, 77, 78, 84, 85, 86, 87, 88, 89, 90, 91, 92, 93, 94, 95, 96] (by decide +kernel) (by decide +kernel)
set_option maxRecDepth 20000 in
theorem gX3_bid_X2_takeBid : GoodIn wsX3_bid (wsV RX3 85 RX2 yX2_takeBid wsX2_takeBid) := goodIn_app (goodIn_of _ (by decide +kernel)) ggX3_bid_X2_takeBid
theorem dX3_bid_0 : decode cX3_bid 0 = .ok (.iload_n 1, 1) := by decide +kernel
theorem dX3_bid_1 : decode cX3_bid 1 = .ok (.ifCond .lt 10, 3) := by decide +kernel
theorem dX3_bid_4 : decode cX3_bid 4 = .ok (.iload_n 1, 1) := by decide +kernel
theorem dX3_bid_5 : decode cX3_bid 5 = .ok (.sipush 9999, 3) := by decide +kernel
theorem dX3_bid_8 : decode cX3_bid 8 = .ok (.if_icmp .le 6, 3) := by decide +kernel
theorem dX3_bid_11 : decode cX3_bid 11 = .ok (.ldc 37, 2) := by decide +kernel
theorem dX3_bid_13 : decode cX3_bid 13 = .ok (.ireturn, 1) := by decide +kernel
theorem dX3_bid_14 : decode cX3_bid 14 = .ok (.aload_n 0, 1) := by decide +kernel
theorem dX3_bid_15 : decode cX3_bid 15 = .ok (.getfield 10, 3) := by decide +kernel
theorem dX3_bid_18 : decode cX3_bid 18 = .ok (.iload_n 1, 1) := by decide +kernel
theorem dX3_bid_19 : decode cX3_bid 19 = .ok (.invokevirtual 82, 3) := by decide +kernel
theorem dX3_bid_22 : decode cX3_bid 22 = .ok (.ifCond .ne 6, 3) := by decide +kernel
theorem dX3_bid_25 : decode cX3_bid 25 = .ok (.ldc 61, 2) := by decide +kernel
theorem dX3_bid_27 : decode cX3_bid 27 = .ok (.ireturn, 1) := by decide +kernel
theorem dX3_bid_28 : decode cX3_bid 28 = .ok (.aload_n 0, 1) := by decide +kernel
theorem dX3_bid_29 : decode cX3_bid 29 = .ok (.getfield 22, 3) := by decide +kernel
theorem dX3_bid_32 : decode cX3_bid 32 = .ok (.aload_n 0, 1) := by decide +kernel
theorem dX3_bid_33 : decode cX3_bid 33 = .ok (.getfield 10, 3) := by decide +kernel
theorem dX3_bid_36 : decode cX3_bid 36 = .ok (.invokevirtual 45, 3) := by decide +kernel
theorem dX3_bid_39 : decode cX3_bid 39 = .ok (.aload_n 0, 1) := by decide +kernel
theorem dX3_bid_40 : decode cX3_bid 40 = .ok (.getfield 10, 3) := by decide +kernel
theorem dX3_bid_43 : decode cX3_bid 43 = .ok (.iload_n 1, 1) := by decide +kernel
theorem dX3_bid_44 : decode cX3_bid 44 = .ok (.invokevirtual 85, 3) := by decide +kernel
theorem dX3_bid_47 : decode cX3_bid 47 = .ok (.ireturn, 1) := by decide +kernel
set_option maxRecDepth 20000 in
theorem ggX3_drop_X0_keep : GoodIn wsX3_drop wsX0_keep := goodIn_r _ [9, 10, 11, 12, 13, 14, 15, 16, 17, 18, 19, 20, 21, 22, 23, 24, 25, 26, 27, 28, 29, 30, 31, 32, 33, 34, 35, 36, 37, 38, 39, 40, 41, 42, 43, 44, 45, 46, 47, 48, 49, 50, 51, 109, 110, 111, 96, 97, 98, 99, 100, 101, 102, 103, 104, 105, 106, 107, 108] (by decide +kernel) (by decide +kernel)
set_option maxRecDepth 20000 in
theorem gX3_drop_X0_keep : GoodIn wsX3_drop (wsV RX3 45 RX0 yX0_keep wsX0_keep) := goodIn_app (goodIn_of _ (by decide +kernel)) ggX3_drop_X0_keep
set_option maxRecDepth 20000 in
theorem ggX3_drop_X2_dropOut : GoodIn wsX3_drop wsX2_dropOut := goodIn_r _ [55, 42, 35, 37, 30, 56, 57, 58, 59, 60, 61, 14, 62, 41, 63, 64, 65, 66, 67, 68, 69, 70, 71, 72, 73, 36, 32, 38, 74, 75, 76, 77, 40, 34, 78, 17, 18, 19, 39, 43, 79, 80, 81, 82, 31, 83, 84, 85, 86, 87, 88, 89, 90, 96, 97, 98, 99, 100, 101, 102, 103, 104, 105, 106, 107, 108] (by decide +kernel) (by decide +kernel)
set_option maxRecDepth 20000 in
theorem gX3_drop_X2_dropOut : GoodIn wsX3_drop (wsV RX3 88 RX2 yX2_dropOut wsX2_dropOut) := goodIn_app (goodIn_of _ (by decide +kernel)) ggX3_drop_X2_dropOut
theorem dX3_drop_0 : decode cX3_drop 0 = .ok (.aload_n 0, 1) := by decide +kernel
theorem dX3_drop_1 : decode cX3_drop 1 = .ok (.getfield 10, 3) := by decide +kernel
theorem dX3_drop_4 : decode cX3_drop 4 = .ok (.getfield 74, 3) := by decide +kernel
theorem dX3_drop_7 : decode cX3_drop 7 = .ok (.ifCond .ne 6, 3) := by decide +kernel
theorem dX3_drop_10 : decode cX3_drop 10 = .ok (.ldc 61, 2) := by decide +kernel
theorem dX3_drop_12 : decode cX3_drop 12 = .ok (.ireturn, 1) := by decide +kernel
theorem dX3_drop_13 : decode cX3_drop 13 = .ok (.aload_n 0, 1) := by decide +kernel
theorem dX3_drop_14 : decode cX3_drop 14 = .ok (.getfield 22, 3) := by decide +kernel
theorem dX3_drop_17 : decode cX3_drop 17 = .ok (.aload_n 0, 1) := by decide +kernel
theorem dX3_drop_18 : decode cX3_drop 18 = .ok (.getfield 10, 3) := by decide +kernel
theorem dX3_drop_21 : decode cX3_drop 21 = .ok (.invokevirtual 45, 3) := by decide +kernel
theorem dX3_drop_24 : decode cX3_drop 24 = .ok (.aload_n 0, 1) := by decide +kernel
theorem dX3_drop_25 : decode cX3_drop 25 = .ok (.getfield 10, 3) := by decide +kernel
theorem dX3_drop_28 : decode cX3_drop 28 = .ok (.invokevirtual 88, 3) := by decide +kernel
theorem dX3_drop_31 : decode cX3_drop 31 = .ok (.ireturn, 1) := by decide +kernel
set_option maxRecDepth 20000 in
theorem ggX3_act_X0_keep : GoodIn wsX3_act wsX0_keep := goodIn_r _ [9, 10, 11, 12, 13, 14, 15, 16, 17, 18, 19, 20, 21, 22, 23, 24, 25, 26, 27, 28, 29, 30, 31, 32, 33, 34, 35, 36, 37, 38, 39, 40, 41, 42, 43, 44, 45, 46, 47, 48, 49, 50, 51, 129, 130, 131, 116, 117, 118, 119, 120, 121, 122, 123, 124, 125, 126, 127, 128] (by decide +kernel) (by decide +kernel)
set_option maxRecDepth 20000 in
theorem gX3_act_X0_keep : GoodIn wsX3_act (wsV RX3 45 RX0 yX0_keep wsX0_keep) := goodIn_app (goodIn_of _ (by decide +kernel)) ggX3_act_X0_keep
set_option maxRecDepth 20000 in
theorem ggX3_act_X2_actByLimit : GoodIn wsX3_act wsX2_actByLimit := goodIn_r _ [55, 42, 33, 56, 57, 58, 14, 59, 41, 35, 30, 60, 61, 62, 63, 36, 64, 65, 66, 67, 68, 69, 70, 32, 71, 72, 73, 74, 75, 76, 77, 78, 34, 37, 79, 80, 81, 82, 83, 84, 85, 86, 87, 88, 89, 90, 91, 92, 93, 94, 95, 96, 97, 98, 99, 100, 101, 38, 102, 103, 104, 105, 40, 106, 17, 18, 19, 39, 43, 107, 108, 109, 110, 31, 116, 117, 118, 119, 120, 121, 122, 123, 124, 125, 126, 127, 128] (by decide +kernel) (by decide +kernel)
set_option maxRecDepth 20000 in
theorem gX3_act_X2_actByLimit : GoodIn wsX3_act (wsV RX3 91 RX2 yX2_actByLimit wsX2_actByLimit) := goodIn_app (goodIn_of _ (by decide +kernel)) ggX3_act_X2_actByLimit
theorem dX3_act_0 : decode cX3_act 0 = .ok (.aload_n 0, 1) := by decide +kernel
theorem dX3_act_1 : decode cX3_act 1 = .ok (.getfield 10, 3) := by decide +kernel
theorem dX3_act_4 : decode cX3_act 4 = .ok (.getfield 74, 3) := by decide +kernel
theorem dX3_act_7 : decode cX3_act 7 = .ok (.ifCond .ne 6, 3) := by decide +kernel
theorem dX3_act_10 : decode cX3_act 10 = .ok (.ldc 61, 2) := by decide +kernel
theorem dX3_act_12 : decode cX3_act 12 = .ok (.ireturn, 1) := by decide +kernel
theorem dX3_act_13 : decode cX3_act 13 = .ok (.aload_n 0, 1) := by decide +kernel
theorem dX3_act_14 : decode cX3_act 14 = .ok (.getfield 22, 3) := by decide +kernel
theorem dX3_act_17 : decode cX3_act 17 = .ok (.aload_n 0, 1) := by decide +kernel
theorem dX3_act_18 : decode cX3_act 18 = .ok (.getfield 10, 3) := by decide +kernel
theorem dX3_act_21 : decode cX3_act 21 = .ok (.invokevirtual 45, 3) := by decide +kernel
theorem dX3_act_24 : decode cX3_act 24 = .ok (.aload_n 0, 1) := by decide +kernel
theorem dX3_act_25 : decode cX3_act 25 = .ok (.getfield 10, 3) := by decide +kernel
theorem dX3_act_28 : decode cX3_act 28 = .ok (.invokevirtual 91, 3) := by decide +kernel
theorem dX3_act_31 : decode cX3_act 31 = .ok (.ireturn, 1) := by decide +kernel
set_option maxRecDepth 20000 in
theorem ggX3_finish_X0_keep : GoodIn wsX3_finish wsX0_keep := goodIn_r _ [7, 8, 9, 10, 11, 12, 13, 14, 15, 16, 17, 18, 19, 20, 21, 22, 23, 24, 25, 26, 27, 28, 29, 30, 31, 32, 33, 34, 35, 36, 37, 38, 39, 40, 41, 42, 43, 44, 45, 46, 47, 48, 49, 123, 124, 125, 126, 127, 128, 129, 130, 131, 132, 133, 134, 135, 136, 137, 138] (by decide +kernel) (by decide +kernel)
set_option maxRecDepth 20000 in
theorem gX3_finish_X0_keep : GoodIn wsX3_finish (wsV RX3 45 RX0 yX0_keep wsX0_keep) := goodIn_app (goodIn_of _ (by decide +kernel)) ggX3_finish_X0_keep
set_option maxRecDepth 20000 in
theorem ggX3_finish_X2_playRound : GoodIn wsX3_finish wsX2_playRound := goodIn_r _ [53, 39, 54, 55, 56, 12, 57, 40, 58, 59, 60, 61, 32, 33, 62, 63, 64, 65, 31, 66, 67, 68, 69, 28, 70, 71, 72, 73, 34, 74, 75, 76, 77, 78, 79, 80, 30, 81, 82, 83, 84, 85, 86, 87, 88, 35, 89, 90, 91, 92, 93, 94, 95, 96, 97, 98, 99, 100, 101, 102, 103, 104, 105, 106, 107, 36, 108, 109, 110, 111, 38, 112, 15, 16, 17, 37, 41, 113, 114, 115, 116, 29, 126, 127, 128, 129, 130, 131, 132, 133, 134, 135, 136, 137, 138] (by decide +kernel) (by decide +kernel)
set_option maxRecDepth 20000 in
theorem gX3_finish_X2_playRound : GoodIn wsX3_finish (wsV RX3 94 RX2 yX2_playRound wsX2_playRound) := goodIn_app (goodIn_of _ (by decide +kernel)) ggX3_finish_X2_playRound
set_option maxRecDepth 20000 in
theorem ggX3_finish_X2_playerAt : GoodIn wsX3_finish wsX2_playerAt := goodIn_r _ [61, 32, 33, 126, 127, 128, 129, 130, 131, 132, 133, 134, 135, 136, 137, 138] (by decide +kernel) (by decide +kernel)
set_option maxRecDepth 20000 in
theorem gX3_finish_X2_playerAt : GoodIn wsX3_finish (wsV RX3 97 RX2 yX2_playerAt wsX2_playerAt) := goodIn_app (goodIn_of _ (by decide +kernel)) ggX3_finish_X2_playerAt
theorem dX3_finish_0 : decode cX3_finish 0 = .ok (.aload_n 0, 1) := by decide +kernel
theorem dX3_finish_1 : decode cX3_finish 1 = .ok (.getfield 22, 3) := by decide +kernel
theorem dX3_finish_4 : decode cX3_finish 4 = .ok (.aload_n 0, 1) := by decide +kernel
theorem dX3_finish_5 : decode cX3_finish 5 = .ok (.getfield 10, 3) := by decide +kernel
theorem dX3_finish_8 : decode cX3_finish 8 = .ok (.invokevirtual 45, 3) := by decide +kernel
theorem dX3_finish_11 : decode cX3_finish 11 = .ok (.aload_n 0, 1) := by decide +kernel
theorem dX3_finish_12 : decode cX3_finish 12 = .ok (.getfield 10, 3) := by decide +kernel
theorem dX3_finish_15 : decode cX3_finish 15 = .ok (.invokevirtual 94, 3) := by decide +kernel
theorem dX3_finish_18 : decode cX3_finish 18 = .ok (.pop, 1) := by decide +kernel
theorem dX3_finish_19 : decode cX3_finish 19 = .ok (.aload_n 0, 1) := by decide +kernel
theorem dX3_finish_20 : decode cX3_finish 20 = .ok (.getfield 10, 3) := by decide +kernel
theorem dX3_finish_23 : decode cX3_finish 23 = .ok (.iconst 0, 1) := by decide +kernel
theorem dX3_finish_24 : decode cX3_finish 24 = .ok (.invokevirtual 97, 3) := by decide +kernel
theorem dX3_finish_27 : decode cX3_finish 27 = .ok (.ireturn, 1) := by decide +kernel
set_option maxRecDepth 20000 in
theorem ggX3_run_X1_faultIndex : GoodIn wsX3_run wsX1_faultIndex := goodIn_r _ [12, 13, 14, 15, 16, 17, 11, 18, 19, 20, 21, 22, 23, 24, 25, 157, 158] (by decide +kernel) (by decide +kernel)
set_option maxRecDepth 20000 in
theorem gX3_run_X1_faultIndex : GoodIn wsX3_run (wsV RX3 100 RX1 yX1_faultIndex wsX1_faultIndex) := goodIn_app (goodIn_of _ (by decide +kernel)) ggX3_run_X1_faultIndex
set_option maxRecDepth 20000 in
theorem ggX3_run_X0_keep : GoodIn wsX3_run wsX0_keep := goodIn_r _ [30, 31, 32, 33, 34, 35, 36, 37, 38, 39, 40, 41, 42, 43, 44, 45, 46, 47, 48, 49, 50, 51, 52, 53, 54, 55, 56, 57, 58, 59, 60, 61, 62, 63, 64, 65, 66, 67, 68, 69, 70, 71, 72, 159, 160, 161, 162, 163, 164, 165, 166, 167, 168, 169, 170, 171, 172, 173, 174] (by decide +kernel) (by decide +kernel)
set_option maxRecDepth 20000 in
theorem gX3_run_X0_keep : GoodIn wsX3_run (wsV RX3 45 RX0 yX0_keep wsX0_keep) := goodIn_app (goodIn_of _ (by decide +kernel)) ggX3_run_X0_keep
set_option maxRecDepth 20000 in
theorem ggX3_run_X1_signAt : GoodIn wsX3_run wsX1_signAt := goodIn_r _ [18, 19, 157, 158] (by decide +kernel) (by decide +kernel)
set_option maxRecDepth 20000 in
theorem gX3_run_X1_signAt : GoodIn wsX3_run (wsV RX3 109 RX1 yX1_signAt wsX1_signAt) := goodIn_app (goodIn_of _ (by decide +kernel)) ggX3_run_X1_signAt
set_option maxRecDepth 20000 in
theorem ggX3_run_X1_isDigit : GoodIn wsX3_run wsX1_isDigit := goodIn_r _ [25] (by decide +kernel) (by decide +kernel)
set_option maxRecDepth 20000 in
theorem gX3_run_X1_isDigit : GoodIn wsX3_run (va_wsS RX3 113 yX1_isDigit wsX1_isDigit) := goodIn_app (goodIn_of _ (by decide +kernel)) ggX3_run_X1_isDigit
set_option maxRecDepth 20000 in
theorem ggX3_run_X3_doMove : GoodIn wsX3_run wsX3_doMove := goodIn_r _ [79, 5, 80, 7, 81, 82, 83, 35, 84, 62, 63, 85, 86, 87, 88, 55, 56, 89, 90, 91, 92, 93, 94, 95, 96, 97, 54, 98, 99, 100, 101, 51, 102, 103, 104, 105, 57, 106, 78, 107, 108, 109, 110, 111, 53, 112, 113, 114, 115, 116, 117, 118, 119, 58, 120, 121, 122, 123, 124, 125, 126, 127, 128, 129, 130, 131, 132, 133, 134, 135, 136, 137, 138, 59, 139, 140, 141, 142, 61, 143, 38, 39, 40, 60, 64, 144, 145, 146, 147, 52, 148, 149, 150, 151, 152, 153, 154, 155, 156, 162, 163, 164, 165, 166, 167, 168, 169, 170, 171, 172, 173, 174] (by decide +kernel) (by decide +kernel)
set_option maxRecDepth 20000 in
theorem gX3_run_X3_doMove : GoodIn wsX3_run (wsV RX3 117 RX3 yX3_doMove wsX3_doMove) := goodIn_app (goodIn_of _ (by decide +kernel)) ggX3_run_X3_doMove
theorem dX3_run_0 : decode cX3_run 0 = .ok (.aload_n 0, 1) := by decide +kernel
theorem dX3_run_1 : decode cX3_run 1 = .ok (.getfield 33, 3) := by decide +kernel
theorem dX3_run_4 : decode cX3_run 4 = .ok (.invokevirtual 100, 3) := by decide +kernel
theorem dX3_run_7 : decode cX3_run 7 = .ok (.ldc 103, 2) := by decide +kernel
theorem dX3_run_9 : decode cX3_run 9 = .ok (.if_icmp .eq 6, 3) := by decide +kernel
theorem dX3_run_12 : decode cX3_run 12 = .ok (.ldc 104, 2) := by decide +kernel
theorem dX3_run_14 : decode cX3_run 14 = .ok (.ireturn, 1) := by decide +kernel
theorem dX3_run_15 : decode cX3_run 15 = .ok (.aload_n 0, 1) := by decide +kernel
theorem dX3_run_16 : decode cX3_run 16 = .ok (.getfield 22, 3) := by decide +kernel
theorem dX3_run_19 : decode cX3_run 19 = .ok (.aload_n 0, 1) := by decide +kernel
theorem dX3_run_20 : decode cX3_run 20 = .ok (.getfield 10, 3) := by decide +kernel
theorem dX3_run_23 : decode cX3_run 23 = .ok (.invokevirtual 45, 3) := by decide +kernel
theorem dX3_run_26 : decode cX3_run 26 = .ok (.iconst 0, 1) := by decide +kernel
theorem dX3_run_27 : decode cX3_run 27 = .ok (.istore_n 1, 1) := by decide +kernel
theorem dX3_run_28 : decode cX3_run 28 = .ok (.iconst 0, 1) := by decide +kernel
theorem dX3_run_29 : decode cX3_run 29 = .ok (.istore_n 2, 1) := by decide +kernel
theorem dX3_run_30 : decode cX3_run 30 = .ok (.iconst 0, 1) := by decide +kernel
theorem dX3_run_31 : decode cX3_run 31 = .ok (.istore_n 3, 1) := by decide +kernel
theorem dX3_run_32 : decode cX3_run 32 = .ok (.iload_n 3, 1) := by decide +kernel
theorem dX3_run_33 : decode cX3_run 33 = .ok (.aload_n 0, 1) := by decide +kernel
theorem dX3_run_34 : decode cX3_run 34 = .ok (.getfield 33, 3) := by decide +kernel
theorem dX3_run_37 : decode cX3_run 37 = .ok (.getfield 105, 3) := by decide +kernel
theorem dX3_run_40 : decode cX3_run 40 = .ok (.if_icmp .ge 108, 3) := by decide +kernel
theorem dX3_run_43 : decode cX3_run 43 = .ok (.aload_n 0, 1) := by decide +kernel
theorem dX3_run_44 : decode cX3_run 44 = .ok (.getfield 33, 3) := by decide +kernel
theorem dX3_run_47 : decode cX3_run 47 = .ok (.iload_n 3, 1) := by decide +kernel
theorem dX3_run_48 : decode cX3_run 48 = .ok (.invokevirtual 109, 3) := by decide +kernel
theorem dX3_run_51 : decode cX3_run 51 = .ok (.istore 4, 2) := by decide +kernel
theorem dX3_run_53 : decode cX3_run 53 = .ok (.iload 4, 2) := by decide +kernel
theorem dX3_run_55 : decode cX3_run 55 = .ok (.invokestatic 113, 3) := by decide +kernel
theorem dX3_run_58 : decode cX3_run 58 = .ok (.ifCond .eq 14, 3) := by decide +kernel
theorem dX3_run_61 : decode cX3_run 61 = .ok (.iload_n 2, 1) := by decide +kernel
theorem dX3_run_62 : decode cX3_run 62 = .ok (.bipush 10, 2) := by decide +kernel
theorem dX3_run_64 : decode cX3_run 64 = .ok (.imul, 1) := by decide +kernel
theorem dX3_run_65 : decode cX3_run 65 = .ok (.iload 4, 2) := by decide +kernel
theorem dX3_run_67 : decode cX3_run 67 = .ok (.iadd, 1) := by decide +kernel
theorem dX3_run_68 : decode cX3_run 68 = .ok (.bipush 48, 2) := by decide +kernel
theorem dX3_run_70 : decode cX3_run 70 = .ok (.isub, 1) := by decide +kernel
theorem dX3_run_71 : decode cX3_run 71 = .ok (.istore_n 2, 1) := by decide +kernel
theorem dX3_run_72 : decode cX3_run 72 = .ok (.iload 4, 2) := by decide +kernel
theorem dX3_run_74 : decode cX3_run 74 = .ok (.bipush 44, 2) := by decide +kernel
theorem dX3_run_76 : decode cX3_run 76 = .ok (.if_icmp .eq 35, 3) := by decide +kernel
theorem dX3_run_79 : decode cX3_run 79 = .ok (.iload_n 3, 1) := by decide +kernel
theorem dX3_run_80 : decode cX3_run 80 = .ok (.iconst 1, 1) := by decide +kernel
theorem dX3_run_81 : decode cX3_run 81 = .ok (.iadd, 1) := by decide +kernel
theorem dX3_run_82 : decode cX3_run 82 = .ok (.aload_n 0, 1) := by decide +kernel
theorem dX3_run_83 : decode cX3_run 83 = .ok (.getfield 33, 3) := by decide +kernel
theorem dX3_run_86 : decode cX3_run 86 = .ok (.getfield 105, 3) := by decide +kernel
theorem dX3_run_89 : decode cX3_run 89 = .ok (.if_icmp .eq 18, 3) := by decide +kernel
theorem dX3_run_92 : decode cX3_run 92 = .ok (.aload_n 0, 1) := by decide +kernel
theorem dX3_run_93 : decode cX3_run 93 = .ok (.getfield 33, 3) := by decide +kernel
theorem dX3_run_96 : decode cX3_run 96 = .ok (.iload_n 3, 1) := by decide +kernel
theorem dX3_run_97 : decode cX3_run 97 = .ok (.iconst 1, 1) := by decide +kernel
theorem dX3_run_98 : decode cX3_run 98 = .ok (.iadd, 1) := by decide +kernel
theorem dX3_run_99 : decode cX3_run 99 = .ok (.invokevirtual 109, 3) := by decide +kernel
theorem dX3_run_102 : decode cX3_run 102 = .ok (.bipush 44, 2) := by decide +kernel
theorem dX3_run_104 : decode cX3_run 104 = .ok (.if_icmp .ne 7, 3) := by decide +kernel
theorem dX3_run_107 : decode cX3_run 107 = .ok (.iconst 1, 1) := by decide +kernel
theorem dX3_run_108 : decode cX3_run 108 = .ok (.goto 4, 3) := by decide +kernel
theorem dX3_run_111 : decode cX3_run 111 = .ok (.iconst 0, 1) := by decide +kernel
theorem dX3_run_112 : decode cX3_run 112 = .ok (.istore 5, 2) := by decide +kernel
theorem dX3_run_114 : decode cX3_run 114 = .ok (.iload 5, 2) := by decide +kernel
theorem dX3_run_116 : decode cX3_run 116 = .ok (.ifCond .ne 6, 3) := by decide +kernel
theorem dX3_run_119 : decode cX3_run 119 = .ok (.goto 23, 3) := by decide +kernel
theorem dX3_run_122 : decode cX3_run 122 = .ok (.aload_n 0, 1) := by decide +kernel
theorem dX3_run_123 : decode cX3_run 123 = .ok (.iload 4, 2) := by decide +kernel
theorem dX3_run_125 : decode cX3_run 125 = .ok (.iload_n 2, 1) := by decide +kernel
theorem dX3_run_126 : decode cX3_run 126 = .ok (.invokevirtual 117, 3) := by decide +kernel
theorem dX3_run_129 : decode cX3_run 129 = .ok (.ldc 61, 2) := by decide +kernel
theorem dX3_run_131 : decode cX3_run 131 = .ok (.if_icmp .ne 6, 3) := by decide +kernel
theorem dX3_run_134 : decode cX3_run 134 = .ok (.goto 14, 3) := by decide +kernel
theorem dX3_run_137 : decode cX3_run 137 = .ok (.iinc 1 1, 3) := by decide +kernel
theorem dX3_run_140 : decode cX3_run 140 = .ok (.iconst 0, 1) := by decide +kernel
theorem dX3_run_141 : decode cX3_run 141 = .ok (.istore_n 2, 1) := by decide +kernel
theorem dX3_run_142 : decode cX3_run 142 = .ok (.iinc 3 1, 3) := by decide +kernel
theorem dX3_run_145 : decode cX3_run 145 = .ok (.goto (-113), 3) := by decide +kernel
theorem dX3_run_148 : decode cX3_run 148 = .ok (.aload_n 0, 1) := by decide +kernel
theorem dX3_run_149 : decode cX3_run 149 = .ok (.getfield 33, 3) := by decide +kernel
theorem dX3_run_152 : decode cX3_run 152 = .ok (.iconst 0, 1) := by decide +kernel
theorem dX3_run_153 : decode cX3_run 153 = .ok (.putfield 105, 3) := by decide +kernel
theorem dX3_run_156 : decode cX3_run 156 = .ok (.iload_n 1, 1) := by decide +kernel
theorem dX3_run_157 : decode cX3_run 157 = .ok (.ireturn, 1) := by decide +kernel
set_option maxRecDepth 20000 in
theorem ggX3_player_X3_isPlayer : GoodIn wsX3_player wsX3_isPlayer := goodIn_r _ [15] (by decide +kernel) (by decide +kernel)
set_option maxRecDepth 20000 in
theorem gX3_player_X3_isPlayer : GoodIn wsX3_player (va_wsS RX3 52 yX3_isPlayer wsX3_isPlayer) := goodIn_app (goodIn_of _ (by decide +kernel)) ggX3_player_X3_isPlayer
theorem dX3_player_0 : decode cX3_player 0 = .ok (.iload_n 1, 1) := by decide +kernel
theorem dX3_player_1 : decode cX3_player 1 = .ok (.invokestatic 52, 3) := by decide +kernel
theorem dX3_player_4 : decode cX3_player 4 = .ok (.ifCond .ne 6, 3) := by decide +kernel
theorem dX3_player_7 : decode cX3_player 7 = .ok (.ldc 56, 2) := by decide +kernel
theorem dX3_player_9 : decode cX3_player 9 = .ok (.ireturn, 1) := by decide +kernel
theorem dX3_player_10 : decode cX3_player 10 = .ok (.iload_n 2, 1) := by decide +kernel
theorem dX3_player_11 : decode cX3_player 11 = .ok (.tableswitch 125 0 7 #[45, 55, 65, 75, 85, 95, 105, 115], 45) := by decide +kernel
theorem dX3_player_56 : decode cX3_player 56 = .ok (.aload_n 0, 1) := by decide +kernel
theorem dX3_player_57 : decode cX3_player 57 = .ok (.getfield 10, 3) := by decide +kernel
theorem dX3_player_60 : decode cX3_player 60 = .ok (.getfield 62, 3) := by decide +kernel
theorem dX3_player_63 : decode cX3_player 63 = .ok (.iload_n 1, 1) := by decide +kernel
theorem dX3_player_64 : decode cX3_player 64 = .ok (.iaload, 1) := by decide +kernel
theorem dX3_player_65 : decode cX3_player 65 = .ok (.ireturn, 1) := by decide +kernel
theorem dX3_player_66 : decode cX3_player 66 = .ok (.aload_n 0, 1) := by decide +kernel
theorem dX3_player_67 : decode cX3_player 67 = .ok (.getfield 10, 3) := by decide +kernel
theorem dX3_player_70 : decode cX3_player 70 = .ok (.getfield 65, 3) := by decide +kernel
theorem dX3_player_73 : decode cX3_player 73 = .ok (.iload_n 1, 1) := by decide +kernel
theorem dX3_player_74 : decode cX3_player 74 = .ok (.iaload, 1) := by decide +kernel
theorem dX3_player_75 : decode cX3_player 75 = .ok (.ireturn, 1) := by decide +kernel
theorem dX3_player_76 : decode cX3_player 76 = .ok (.aload_n 0, 1) := by decide +kernel
theorem dX3_player_77 : decode cX3_player 77 = .ok (.getfield 10, 3) := by decide +kernel
theorem dX3_player_80 : decode cX3_player 80 = .ok (.getfield 121, 3) := by decide +kernel
theorem dX3_player_83 : decode cX3_player 83 = .ok (.iload_n 1, 1) := by decide +kernel
theorem dX3_player_84 : decode cX3_player 84 = .ok (.iaload, 1) := by decide +kernel
theorem dX3_player_85 : decode cX3_player 85 = .ok (.ireturn, 1) := by decide +kernel
theorem dX3_player_86 : decode cX3_player 86 = .ok (.aload_n 0, 1) := by decide +kernel
theorem dX3_player_87 : decode cX3_player 87 = .ok (.getfield 10, 3) := by decide +kernel
theorem dX3_player_90 : decode cX3_player 90 = .ok (.getfield 124, 3) := by decide +kernel
theorem dX3_player_93 : decode cX3_player 93 = .ok (.iload_n 1, 1) := by decide +kernel
theorem dX3_player_94 : decode cX3_player 94 = .ok (.iaload, 1) := by decide +kernel
theorem dX3_player_95 : decode cX3_player 95 = .ok (.ireturn, 1) := by decide +kernel
theorem dX3_player_96 : decode cX3_player 96 = .ok (.aload_n 0, 1) := by decide +kernel
theorem dX3_player_97 : decode cX3_player 97 = .ok (.getfield 10, 3) := by decide +kernel
theorem dX3_player_100 : decode cX3_player 100 = .ok (.getfield 127, 3) := by decide +kernel
theorem dX3_player_103 : decode cX3_player 103 = .ok (.iload_n 1, 1) := by decide +kernel
theorem dX3_player_104 : decode cX3_player 104 = .ok (.iaload, 1) := by decide +kernel
theorem dX3_player_105 : decode cX3_player 105 = .ok (.ireturn, 1) := by decide +kernel
theorem dX3_player_106 : decode cX3_player 106 = .ok (.aload_n 0, 1) := by decide +kernel
theorem dX3_player_107 : decode cX3_player 107 = .ok (.getfield 10, 3) := by decide +kernel
theorem dX3_player_110 : decode cX3_player 110 = .ok (.getfield 130, 3) := by decide +kernel
theorem dX3_player_113 : decode cX3_player 113 = .ok (.iload_n 1, 1) := by decide +kernel
theorem dX3_player_114 : decode cX3_player 114 = .ok (.iaload, 1) := by decide +kernel
theorem dX3_player_115 : decode cX3_player 115 = .ok (.ireturn, 1) := by decide +kernel
theorem dX3_player_116 : decode cX3_player 116 = .ok (.aload_n 0, 1) := by decide +kernel
theorem dX3_player_117 : decode cX3_player 117 = .ok (.getfield 10, 3) := by decide +kernel
theorem dX3_player_120 : decode cX3_player 120 = .ok (.getfield 133, 3) := by decide +kernel
theorem dX3_player_123 : decode cX3_player 123 = .ok (.iload_n 1, 1) := by decide +kernel
theorem dX3_player_124 : decode cX3_player 124 = .ok (.iaload, 1) := by decide +kernel
theorem dX3_player_125 : decode cX3_player 125 = .ok (.ireturn, 1) := by decide +kernel
theorem dX3_player_126 : decode cX3_player 126 = .ok (.aload_n 0, 1) := by decide +kernel
theorem dX3_player_127 : decode cX3_player 127 = .ok (.getfield 10, 3) := by decide +kernel
theorem dX3_player_130 : decode cX3_player 130 = .ok (.getfield 136, 3) := by decide +kernel
theorem dX3_player_133 : decode cX3_player 133 = .ok (.iload_n 1, 1) := by decide +kernel
theorem dX3_player_134 : decode cX3_player 134 = .ok (.iaload, 1) := by decide +kernel
theorem dX3_player_135 : decode cX3_player 135 = .ok (.ireturn, 1) := by decide +kernel
theorem dX3_player_136 : decode cX3_player 136 = .ok (.ldc 37, 2) := by decide +kernel
theorem dX3_player_138 : decode cX3_player 138 = .ok (.ireturn, 1) := by decide +kernel
set_option maxRecDepth 20000 in
theorem ggX3_at_X2_playerAt : GoodIn wsX3_at wsX2_playerAt := goodIn_r _ [7, 8, 9, 15, 16, 17, 18, 19, 20, 21, 22, 23, 24, 25, 26, 27] (by decide +kernel) (by decide +kernel)
set_option maxRecDepth 20000 in
theorem gX3_at_X2_playerAt : GoodIn wsX3_at (wsV RX3 97 RX2 yX2_playerAt wsX2_playerAt) := goodIn_app (goodIn_of _ (by decide +kernel)) ggX3_at_X2_playerAt
theorem dX3_at_0 : decode cX3_at 0 = .ok (.iload_n 1, 1) := by decide +kernel
theorem dX3_at_1 : decode cX3_at 1 = .ok (.ifCond .lt 8, 3) := by decide +kernel
theorem dX3_at_4 : decode cX3_at 4 = .ok (.iload_n 1, 1) := by decide +kernel
theorem dX3_at_5 : decode cX3_at 5 = .ok (.iconst 5, 1) := by decide +kernel
theorem dX3_at_6 : decode cX3_at 6 = .ok (.if_icmp .lt 6, 3) := by decide +kernel
theorem dX3_at_9 : decode cX3_at 9 = .ok (.ldc 56, 2) := by decide +kernel
theorem dX3_at_11 : decode cX3_at 11 = .ok (.ireturn, 1) := by decide +kernel
theorem dX3_at_12 : decode cX3_at 12 = .ok (.aload_n 0, 1) := by decide +kernel
theorem dX3_at_13 : decode cX3_at 13 = .ok (.getfield 10, 3) := by decide +kernel
theorem dX3_at_16 : decode cX3_at 16 = .ok (.iload_n 1, 1) := by decide +kernel
theorem dX3_at_17 : decode cX3_at 17 = .ok (.invokevirtual 97, 3) := by decide +kernel
theorem dX3_at_20 : decode cX3_at 20 = .ok (.ireturn, 1) := by decide +kernel
set_option maxRecDepth 20000 in
theorem ggX3_count_X2_highestBid : GoodIn wsX3_count wsX2_highestBid := goodIn_r _ [19, 20, 21, 43, 44, 45, 46, 47, 48, 49, 50, 51, 52, 53, 54, 55] (by decide +kernel) (by decide +kernel)
set_option maxRecDepth 20000 in
theorem gX3_count_X2_highestBid : GoodIn wsX3_count (wsV RX3 142 RX2 yX2_highestBid wsX2_highestBid) := goodIn_app (goodIn_of _ (by decide +kernel)) ggX3_count_X2_highestBid
set_option maxRecDepth 20000 in
theorem ggX3_count_X2_leastBid : GoodIn wsX3_count wsX2_leastBid := goodIn_r _ [25, 26, 20, 27, 28, 16, 17, 18, 19, 21, 43, 44, 45, 46, 47, 48, 49, 50, 51, 52, 53, 54, 55] (by decide +kernel) (by decide +kernel)
set_option maxRecDepth 20000 in
theorem gX3_count_X2_leastBid : GoodIn wsX3_count (wsV RX3 145 RX2 yX2_leastBid wsX2_leastBid) := goodIn_app (goodIn_of _ (by decide +kernel)) ggX3_count_X2_leastBid
set_option maxRecDepth 20000 in
theorem ggX3_count_X2_playersLeft : GoodIn wsX3_count wsX2_playersLeft := goodIn_r _ [32, 26, 33, 20, 43, 44, 45, 46, 47, 48, 49, 50, 51, 52, 53, 54, 55] (by decide +kernel) (by decide +kernel)
set_option maxRecDepth 20000 in
theorem gX3_count_X2_playersLeft : GoodIn wsX3_count (wsV RX3 148 RX2 yX2_playersLeft wsX2_playersLeft) := goodIn_app (goodIn_of _ (by decide +kernel)) ggX3_count_X2_playersLeft
set_option maxRecDepth 20000 in
theorem ggX3_count_X3_sum : GoodIn wsX3_count wsX3_sum := goodIn_r _ [37] (by decide +kernel) (by decide +kernel)
set_option maxRecDepth 20000 in
theorem gX3_count_X3_sum : GoodIn wsX3_count (va_wsS RX3 154 yX3_sum wsX3_sum) := goodIn_app (goodIn_of _ (by decide +kernel)) ggX3_count_X3_sum
theorem dX3_count_0 : decode cX3_count 0 = .ok (.iload_n 1, 1) := by decide +kernel
theorem dX3_count_1 : decode cX3_count 1 = .ok (.ifCond .lt 18, 3) := by decide +kernel
theorem dX3_count_4 : decode cX3_count 4 = .ok (.iload_n 1, 1) := by decide +kernel
theorem dX3_count_5 : decode cX3_count 5 = .ok (.iconst 4, 1) := by decide +kernel
theorem dX3_count_6 : decode cX3_count 6 = .ok (.if_icmp .ge 13, 3) := by decide +kernel
theorem dX3_count_9 : decode cX3_count 9 = .ok (.aload_n 0, 1) := by decide +kernel
theorem dX3_count_10 : decode cX3_count 10 = .ok (.getfield 10, 3) := by decide +kernel
theorem dX3_count_13 : decode cX3_count 13 = .ok (.getfield 49, 3) := by decide +kernel
theorem dX3_count_16 : decode cX3_count 16 = .ok (.iload_n 1, 1) := by decide +kernel
theorem dX3_count_17 : decode cX3_count 17 = .ok (.iaload, 1) := by decide +kernel
theorem dX3_count_18 : decode cX3_count 18 = .ok (.ireturn, 1) := by decide +kernel
theorem dX3_count_19 : decode cX3_count 19 = .ok (.iload_n 1, 1) := by decide +kernel
theorem dX3_count_20 : decode cX3_count 20 = .ok (.tableswitch 180 4 15 #[64, 80, 88, 96, 104, 112, 120, 131, 142, 153, 164, 172], 64) := by decide +kernel
theorem dX3_count_84 : decode cX3_count 84 = .ok (.aload_n 0, 1) := by decide +kernel
theorem dX3_count_85 : decode cX3_count 85 = .ok (.getfield 10, 3) := by decide +kernel
theorem dX3_count_88 : decode cX3_count 88 = .ok (.getfield 74, 3) := by decide +kernel
theorem dX3_count_91 : decode cX3_count 91 = .ok (.ifCond .eq 7, 3) := by decide +kernel
theorem dX3_count_94 : decode cX3_count 94 = .ok (.iconst 1, 1) := by decide +kernel
theorem dX3_count_95 : decode cX3_count 95 = .ok (.goto 4, 3) := by decide +kernel
theorem dX3_count_98 : decode cX3_count 98 = .ok (.iconst 0, 1) := by decide +kernel
theorem dX3_count_99 : decode cX3_count 99 = .ok (.ireturn, 1) := by decide +kernel
theorem dX3_count_100 : decode cX3_count 100 = .ok (.aload_n 0, 1) := by decide +kernel
theorem dX3_count_101 : decode cX3_count 101 = .ok (.getfield 10, 3) := by decide +kernel
theorem dX3_count_104 : decode cX3_count 104 = .ok (.getfield 139, 3) := by decide +kernel
theorem dX3_count_107 : decode cX3_count 107 = .ok (.ireturn, 1) := by decide +kernel
theorem dX3_count_108 : decode cX3_count 108 = .ok (.aload_n 0, 1) := by decide +kernel
theorem dX3_count_109 : decode cX3_count 109 = .ok (.getfield 10, 3) := by decide +kernel
theorem dX3_count_112 : decode cX3_count 112 = .ok (.invokevirtual 142, 3) := by decide +kernel
theorem dX3_count_115 : decode cX3_count 115 = .ok (.ireturn, 1) := by decide +kernel
theorem dX3_count_116 : decode cX3_count 116 = .ok (.aload_n 0, 1) := by decide +kernel
theorem dX3_count_117 : decode cX3_count 117 = .ok (.getfield 10, 3) := by decide +kernel
theorem dX3_count_120 : decode cX3_count 120 = .ok (.invokevirtual 145, 3) := by decide +kernel
theorem dX3_count_123 : decode cX3_count 123 = .ok (.ireturn, 1) := by decide +kernel
theorem dX3_count_124 : decode cX3_count 124 = .ok (.aload_n 0, 1) := by decide +kernel
theorem dX3_count_125 : decode cX3_count 125 = .ok (.getfield 10, 3) := by decide +kernel
theorem dX3_count_128 : decode cX3_count 128 = .ok (.invokevirtual 148, 3) := by decide +kernel
theorem dX3_count_131 : decode cX3_count 131 = .ok (.ireturn, 1) := by decide +kernel
theorem dX3_count_132 : decode cX3_count 132 = .ok (.aload_n 0, 1) := by decide +kernel
theorem dX3_count_133 : decode cX3_count 133 = .ok (.getfield 10, 3) := by decide +kernel
theorem dX3_count_136 : decode cX3_count 136 = .ok (.getfield 151, 3) := by decide +kernel
theorem dX3_count_139 : decode cX3_count 139 = .ok (.ireturn, 1) := by decide +kernel
theorem dX3_count_140 : decode cX3_count 140 = .ok (.aload_n 0, 1) := by decide +kernel
theorem dX3_count_141 : decode cX3_count 141 = .ok (.getfield 10, 3) := by decide +kernel
theorem dX3_count_144 : decode cX3_count 144 = .ok (.getfield 62, 3) := by decide +kernel
theorem dX3_count_147 : decode cX3_count 147 = .ok (.invokestatic 154, 3) := by decide +kernel
theorem dX3_count_150 : decode cX3_count 150 = .ok (.ireturn, 1) := by decide +kernel
theorem dX3_count_151 : decode cX3_count 151 = .ok (.aload_n 0, 1) := by decide +kernel
theorem dX3_count_152 : decode cX3_count 152 = .ok (.getfield 10, 3) := by decide +kernel
theorem dX3_count_155 : decode cX3_count 155 = .ok (.getfield 130, 3) := by decide +kernel
theorem dX3_count_158 : decode cX3_count 158 = .ok (.invokestatic 154, 3) := by decide +kernel
theorem dX3_count_161 : decode cX3_count 161 = .ok (.ireturn, 1) := by decide +kernel
theorem dX3_count_162 : decode cX3_count 162 = .ok (.aload_n 0, 1) := by decide +kernel
theorem dX3_count_163 : decode cX3_count 163 = .ok (.getfield 10, 3) := by decide +kernel
theorem dX3_count_166 : decode cX3_count 166 = .ok (.getfield 133, 3) := by decide +kernel
theorem dX3_count_169 : decode cX3_count 169 = .ok (.invokestatic 154, 3) := by decide +kernel
theorem dX3_count_172 : decode cX3_count 172 = .ok (.ireturn, 1) := by decide +kernel
theorem dX3_count_173 : decode cX3_count 173 = .ok (.aload_n 0, 1) := by decide +kernel
theorem dX3_count_174 : decode cX3_count 174 = .ok (.getfield 10, 3) := by decide +kernel
theorem dX3_count_177 : decode cX3_count 177 = .ok (.getfield 71, 3) := by decide +kernel
theorem dX3_count_180 : decode cX3_count 180 = .ok (.invokestatic 154, 3) := by decide +kernel
theorem dX3_count_183 : decode cX3_count 183 = .ok (.ireturn, 1) := by decide +kernel
theorem dX3_count_184 : decode cX3_count 184 = .ok (.aload_n 0, 1) := by decide +kernel
theorem dX3_count_185 : decode cX3_count 185 = .ok (.getfield 33, 3) := by decide +kernel
theorem dX3_count_188 : decode cX3_count 188 = .ok (.getfield 105, 3) := by decide +kernel
theorem dX3_count_191 : decode cX3_count 191 = .ok (.ireturn, 1) := by decide +kernel
theorem dX3_count_192 : decode cX3_count 192 = .ok (.aload_n 0, 1) := by decide +kernel
theorem dX3_count_193 : decode cX3_count 193 = .ok (.getfield 22, 3) := by decide +kernel
theorem dX3_count_196 : decode cX3_count 196 = .ok (.getfield 158, 3) := by decide +kernel
theorem dX3_count_199 : decode cX3_count 199 = .ok (.ireturn, 1) := by decide +kernel
theorem dX3_count_200 : decode cX3_count 200 = .ok (.ldc 37, 2) := by decide +kernel
theorem dX3_count_202 : decode cX3_count 202 = .ok (.ireturn, 1) := by decide +kernel
set_option maxRecDepth 20000 in
theorem ggX3_prizeOf_X3_isPrize : GoodIn wsX3_prizeOf wsX3_isPrize := goodIn_r _ [7] (by decide +kernel) (by decide +kernel)
set_option maxRecDepth 20000 in
theorem gX3_prizeOf_X3_isPrize : GoodIn wsX3_prizeOf (va_wsS RX3 68 yX3_isPrize wsX3_isPrize) := goodIn_app (goodIn_of _ (by decide +kernel)) ggX3_prizeOf_X3_isPrize
theorem dX3_prizeOf_0 : decode cX3_prizeOf 0 = .ok (.iload_n 1, 1) := by decide +kernel
theorem dX3_prizeOf_1 : decode cX3_prizeOf 1 = .ok (.invokestatic 68, 3) := by decide +kernel
theorem dX3_prizeOf_4 : decode cX3_prizeOf 4 = .ok (.ifCond .ne 6, 3) := by decide +kernel
theorem dX3_prizeOf_7 : decode cX3_prizeOf 7 = .ok (.ldc 56, 2) := by decide +kernel
theorem dX3_prizeOf_9 : decode cX3_prizeOf 9 = .ok (.ireturn, 1) := by decide +kernel
theorem dX3_prizeOf_10 : decode cX3_prizeOf 10 = .ok (.aload_n 0, 1) := by decide +kernel
theorem dX3_prizeOf_11 : decode cX3_prizeOf 11 = .ok (.getfield 10, 3) := by decide +kernel
theorem dX3_prizeOf_14 : decode cX3_prizeOf 14 = .ok (.getfield 71, 3) := by decide +kernel
theorem dX3_prizeOf_17 : decode cX3_prizeOf 17 = .ok (.iload_n 1, 1) := by decide +kernel
theorem dX3_prizeOf_18 : decode cX3_prizeOf 18 = .ok (.iaload, 1) := by decide +kernel
theorem dX3_prizeOf_19 : decode cX3_prizeOf 19 = .ok (.ireturn, 1) := by decide +kernel
set_option maxRecDepth 20000 in
theorem ggX3_ifFinished_X3_isPlayer : GoodIn wsX3_ifFinished wsX3_isPlayer := goodIn_r _ [12] (by decide +kernel) (by decide +kernel)
set_option maxRecDepth 20000 in
theorem gX3_ifFinished_X3_isPlayer : GoodIn wsX3_ifFinished (va_wsS RX3 52 yX3_isPlayer wsX3_isPlayer) := goodIn_app (goodIn_of _ (by decide +kernel)) ggX3_ifFinished_X3_isPlayer
set_option maxRecDepth 20000 in
theorem ggX3_ifFinished_X3_tryRounds : GoodIn wsX3_ifFinished wsX3_tryRounds := goodIn_r _ [16, 3, 6, 17, 18, 19, 20, 21, 22, 23, 24, 25, 26, 27, 28, 29, 30, 31, 32, 33, 34, 35, 36, 37, 38, 39, 40, 41, 42, 43, 44, 45, 46, 47, 48, 49, 50, 51, 52, 53, 54, 55, 56, 57, 58, 59, 60, 61, 62, 63, 10, 11, 12, 64, 65, 66, 67, 68, 69, 70, 71, 72, 73, 74, 75, 76, 77, 78, 79, 80, 81, 82, 83, 84, 85, 86, 87, 88, 89, 90, 91, 92, 93, 94, 95, 96, 97, 98, 99, 100, 101, 102, 103, 104, 105, 106, 107, 108, 109, 110, 111, 112, 113, 114, 115, 116, 117, 118, 119, 120, 121, 122, 123, 124] (by decide +kernel) (by decide +kernel)
set_option maxRecDepth 20000 in
theorem gX3_ifFinished_X3_tryRounds : GoodIn wsX3_ifFinished (wsV RX3 159 RX3 yX3_tryRounds wsX3_tryRounds) := goodIn_app (goodIn_of _ (by decide +kernel)) ggX3_ifFinished_X3_tryRounds
theorem dX3_ifFinished_0 : decode cX3_ifFinished 0 = .ok (.iload_n 1, 1) := by decide +kernel
theorem dX3_ifFinished_1 : decode cX3_ifFinished 1 = .ok (.invokestatic 52, 3) := by decide +kernel
theorem dX3_ifFinished_4 : decode cX3_ifFinished 4 = .ok (.ifCond .ne 6, 3) := by decide +kernel
theorem dX3_ifFinished_7 : decode cX3_ifFinished 7 = .ok (.ldc 56, 2) := by decide +kernel
theorem dX3_ifFinished_9 : decode cX3_ifFinished 9 = .ok (.ireturn, 1) := by decide +kernel
theorem dX3_ifFinished_10 : decode cX3_ifFinished 10 = .ok (.iload_n 2, 1) := by decide +kernel
theorem dX3_ifFinished_11 : decode cX3_ifFinished 11 = .ok (.ifCond .lt 8, 3) := by decide +kernel
theorem dX3_ifFinished_14 : decode cX3_ifFinished 14 = .ok (.iload_n 2, 1) := by decide +kernel
theorem dX3_ifFinished_15 : decode cX3_ifFinished 15 = .ok (.iconst 3, 1) := by decide +kernel
theorem dX3_ifFinished_16 : decode cX3_ifFinished 16 = .ok (.if_icmp .le 6, 3) := by decide +kernel
theorem dX3_ifFinished_19 : decode cX3_ifFinished 19 = .ok (.ldc 37, 2) := by decide +kernel
theorem dX3_ifFinished_21 : decode cX3_ifFinished 21 = .ok (.ireturn, 1) := by decide +kernel
theorem dX3_ifFinished_22 : decode cX3_ifFinished 22 = .ok (.aload_n 0, 1) := by decide +kernel
theorem dX3_ifFinished_23 : decode cX3_ifFinished 23 = .ok (.iconst 1, 1) := by decide +kernel
theorem dX3_ifFinished_24 : decode cX3_ifFinished 24 = .ok (.invokevirtual 159, 3) := by decide +kernel
theorem dX3_ifFinished_27 : decode cX3_ifFinished 27 = .ok (.iload_n 2, 1) := by decide +kernel
theorem dX3_ifFinished_28 : decode cX3_ifFinished 28 = .ok (.tableswitch 78 0 2 #[28, 38, 58], 28) := by decide +kernel
theorem dX3_ifFinished_56 : decode cX3_ifFinished 56 = .ok (.aload_n 0, 1) := by decide +kernel
theorem dX3_ifFinished_57 : decode cX3_ifFinished 57 = .ok (.getfield 16, 3) := by decide +kernel
theorem dX3_ifFinished_60 : decode cX3_ifFinished 60 = .ok (.getfield 121, 3) := by decide +kernel
theorem dX3_ifFinished_63 : decode cX3_ifFinished 63 = .ok (.iload_n 1, 1) := by decide +kernel
theorem dX3_ifFinished_64 : decode cX3_ifFinished 64 = .ok (.iaload, 1) := by decide +kernel
theorem dX3_ifFinished_65 : decode cX3_ifFinished 65 = .ok (.ireturn, 1) := by decide +kernel
theorem dX3_ifFinished_66 : decode cX3_ifFinished 66 = .ok (.aload_n 0, 1) := by decide +kernel
theorem dX3_ifFinished_67 : decode cX3_ifFinished 67 = .ok (.getfield 16, 3) := by decide +kernel
theorem dX3_ifFinished_70 : decode cX3_ifFinished 70 = .ok (.getfield 130, 3) := by decide +kernel
theorem dX3_ifFinished_73 : decode cX3_ifFinished 73 = .ok (.iload_n 1, 1) := by decide +kernel
theorem dX3_ifFinished_74 : decode cX3_ifFinished 74 = .ok (.iaload, 1) := by decide +kernel
theorem dX3_ifFinished_75 : decode cX3_ifFinished 75 = .ok (.aload_n 0, 1) := by decide +kernel
theorem dX3_ifFinished_76 : decode cX3_ifFinished 76 = .ok (.getfield 10, 3) := by decide +kernel
theorem dX3_ifFinished_79 : decode cX3_ifFinished 79 = .ok (.getfield 130, 3) := by decide +kernel
theorem dX3_ifFinished_82 : decode cX3_ifFinished 82 = .ok (.iload_n 1, 1) := by decide +kernel
theorem dX3_ifFinished_83 : decode cX3_ifFinished 83 = .ok (.iaload, 1) := by decide +kernel
theorem dX3_ifFinished_84 : decode cX3_ifFinished 84 = .ok (.isub, 1) := by decide +kernel
theorem dX3_ifFinished_85 : decode cX3_ifFinished 85 = .ok (.ireturn, 1) := by decide +kernel
theorem dX3_ifFinished_86 : decode cX3_ifFinished 86 = .ok (.aload_n 0, 1) := by decide +kernel
theorem dX3_ifFinished_87 : decode cX3_ifFinished 87 = .ok (.getfield 16, 3) := by decide +kernel
theorem dX3_ifFinished_90 : decode cX3_ifFinished 90 = .ok (.getfield 133, 3) := by decide +kernel
theorem dX3_ifFinished_93 : decode cX3_ifFinished 93 = .ok (.iload_n 1, 1) := by decide +kernel
theorem dX3_ifFinished_94 : decode cX3_ifFinished 94 = .ok (.iaload, 1) := by decide +kernel
theorem dX3_ifFinished_95 : decode cX3_ifFinished 95 = .ok (.aload_n 0, 1) := by decide +kernel
theorem dX3_ifFinished_96 : decode cX3_ifFinished 96 = .ok (.getfield 10, 3) := by decide +kernel
theorem dX3_ifFinished_99 : decode cX3_ifFinished 99 = .ok (.getfield 133, 3) := by decide +kernel
theorem dX3_ifFinished_102 : decode cX3_ifFinished 102 = .ok (.iload_n 1, 1) := by decide +kernel
theorem dX3_ifFinished_103 : decode cX3_ifFinished 103 = .ok (.iaload, 1) := by decide +kernel
theorem dX3_ifFinished_104 : decode cX3_ifFinished 104 = .ok (.isub, 1) := by decide +kernel
theorem dX3_ifFinished_105 : decode cX3_ifFinished 105 = .ok (.ireturn, 1) := by decide +kernel
theorem dX3_ifFinished_106 : decode cX3_ifFinished 106 = .ok (.aload_n 0, 1) := by decide +kernel
theorem dX3_ifFinished_107 : decode cX3_ifFinished 107 = .ok (.getfield 16, 3) := by decide +kernel
theorem dX3_ifFinished_110 : decode cX3_ifFinished 110 = .ok (.getfield 62, 3) := by decide +kernel
theorem dX3_ifFinished_113 : decode cX3_ifFinished 113 = .ok (.iload_n 1, 1) := by decide +kernel
theorem dX3_ifFinished_114 : decode cX3_ifFinished 114 = .ok (.iaload, 1) := by decide +kernel
theorem dX3_ifFinished_115 : decode cX3_ifFinished 115 = .ok (.aload_n 0, 1) := by decide +kernel
theorem dX3_ifFinished_116 : decode cX3_ifFinished 116 = .ok (.getfield 10, 3) := by decide +kernel
theorem dX3_ifFinished_119 : decode cX3_ifFinished 119 = .ok (.getfield 62, 3) := by decide +kernel
theorem dX3_ifFinished_122 : decode cX3_ifFinished 122 = .ok (.iload_n 1, 1) := by decide +kernel
theorem dX3_ifFinished_123 : decode cX3_ifFinished 123 = .ok (.iaload, 1) := by decide +kernel
theorem dX3_ifFinished_124 : decode cX3_ifFinished 124 = .ok (.isub, 1) := by decide +kernel
theorem dX3_ifFinished_125 : decode cX3_ifFinished 125 = .ok (.ireturn, 1) := by decide +kernel
set_option maxRecDepth 20000 in
theorem ggX3_bestLimit_X3_isPlayer : GoodIn wsX3_bestLimit wsX3_isPlayer := goodIn_r _ [11] (by decide +kernel) (by decide +kernel)
set_option maxRecDepth 20000 in
theorem gX3_bestLimit_X3_isPlayer : GoodIn wsX3_bestLimit (va_wsS RX3 52 yX3_isPlayer wsX3_isPlayer) := goodIn_app (goodIn_of _ (by decide +kernel)) ggX3_bestLimit_X3_isPlayer
set_option maxRecDepth 20000 in
theorem ggX3_bestLimit_X2_copyFrom : GoodIn wsX3_bestLimit wsX2_copyFrom := goodIn_r _ [16, 17, 18, 19, 20, 21, 22, 23, 24, 25, 26, 27, 28, 29, 30, 31, 32, 33, 107, 108, 109, 110, 111, 112, 113, 114, 115, 116, 117, 118, 119] (by decide +kernel) (by decide +kernel)
set_option maxRecDepth 20000 in
theorem gX3_bestLimit_X2_copyFrom : GoodIn wsX3_bestLimit (wsV RX3 163 RX2 yX2_copyFrom wsX2_copyFrom) := goodIn_app (goodIn_of _ (by decide +kernel)) ggX3_bestLimit_X2_copyFrom
set_option maxRecDepth 20000 in
theorem ggX3_bestLimit_X2_playRound : GoodIn wsX3_bestLimit wsX2_playRound := goodIn_r _ [37, 31, 38, 39, 40, 15, 41, 32, 42, 43, 44, 45, 25, 46, 47, 48, 49, 50, 24, 51, 52, 53, 54, 17, 55, 56, 57, 58, 26, 9, 10, 11, 59, 60, 61, 62, 23, 63, 64, 65, 66, 67, 68, 69, 70, 27, 71, 72, 73, 74, 75, 76, 77, 78, 79, 80, 81, 82, 83, 84, 85, 86, 87, 88, 89, 28, 90, 91, 92, 93, 30, 94, 95, 96, 97, 29, 33, 98, 99, 100, 101, 22, 107, 108, 109, 110, 111, 112, 113, 114, 115, 116, 117, 118, 119] (by decide +kernel) (by decide +kernel)
set_option maxRecDepth 20000 in
theorem gX3_bestLimit_X2_playRound : GoodIn wsX3_bestLimit (wsV RX3 94 RX2 yX2_playRound wsX2_playRound) := goodIn_app (goodIn_of _ (by decide +kernel)) ggX3_bestLimit_X2_playRound
theorem dX3_bestLimit_0 : decode cX3_bestLimit 0 = .ok (.iload_n 1, 1) := by decide +kernel
theorem dX3_bestLimit_1 : decode cX3_bestLimit 1 = .ok (.invokestatic 52, 3) := by decide +kernel
theorem dX3_bestLimit_4 : decode cX3_bestLimit 4 = .ok (.ifCond .ne 6, 3) := by decide +kernel
theorem dX3_bestLimit_7 : decode cX3_bestLimit 7 = .ok (.ldc 56, 2) := by decide +kernel
theorem dX3_bestLimit_9 : decode cX3_bestLimit 9 = .ok (.ireturn, 1) := by decide +kernel
theorem dX3_bestLimit_10 : decode cX3_bestLimit 10 = .ok (.iload_n 2, 1) := by decide +kernel
theorem dX3_bestLimit_11 : decode cX3_bestLimit 11 = .ok (.ifCond .eq 11, 3) := by decide +kernel
theorem dX3_bestLimit_14 : decode cX3_bestLimit 14 = .ok (.iload_n 2, 1) := by decide +kernel
theorem dX3_bestLimit_15 : decode cX3_bestLimit 15 = .ok (.iconst 1, 1) := by decide +kernel
theorem dX3_bestLimit_16 : decode cX3_bestLimit 16 = .ok (.if_icmp .eq 6, 3) := by decide +kernel
theorem dX3_bestLimit_19 : decode cX3_bestLimit 19 = .ok (.ldc 37, 2) := by decide +kernel
theorem dX3_bestLimit_21 : decode cX3_bestLimit 21 = .ok (.ireturn, 1) := by decide +kernel
theorem dX3_bestLimit_22 : decode cX3_bestLimit 22 = .ok (.iconst 0, 1) := by decide +kernel
theorem dX3_bestLimit_23 : decode cX3_bestLimit 23 = .ok (.istore_n 3, 1) := by decide +kernel
theorem dX3_bestLimit_24 : decode cX3_bestLimit 24 = .ok (.ldc 103, 2) := by decide +kernel
theorem dX3_bestLimit_26 : decode cX3_bestLimit 26 = .ok (.istore 4, 2) := by decide +kernel
theorem dX3_bestLimit_28 : decode cX3_bestLimit 28 = .ok (.iconst 0, 1) := by decide +kernel
theorem dX3_bestLimit_29 : decode cX3_bestLimit 29 = .ok (.istore 5, 2) := by decide +kernel
theorem dX3_bestLimit_31 : decode cX3_bestLimit 31 = .ok (.iload 5, 2) := by decide +kernel
theorem dX3_bestLimit_33 : decode cX3_bestLimit 33 = .ok (.bipush 99, 2) := by decide +kernel
theorem dX3_bestLimit_35 : decode cX3_bestLimit 35 = .ok (.if_icmp .gt 67, 3) := by decide +kernel
theorem dX3_bestLimit_38 : decode cX3_bestLimit 38 = .ok (.aload_n 0, 1) := by decide +kernel
theorem dX3_bestLimit_39 : decode cX3_bestLimit 39 = .ok (.getfield 16, 3) := by decide +kernel
theorem dX3_bestLimit_42 : decode cX3_bestLimit 42 = .ok (.aload_n 0, 1) := by decide +kernel
theorem dX3_bestLimit_43 : decode cX3_bestLimit 43 = .ok (.getfield 10, 3) := by decide +kernel
theorem dX3_bestLimit_46 : decode cX3_bestLimit 46 = .ok (.invokevirtual 163, 3) := by decide +kernel
theorem dX3_bestLimit_49 : decode cX3_bestLimit 49 = .ok (.aload_n 0, 1) := by decide +kernel
theorem dX3_bestLimit_50 : decode cX3_bestLimit 50 = .ok (.getfield 16, 3) := by decide +kernel
theorem dX3_bestLimit_53 : decode cX3_bestLimit 53 = .ok (.getfield 65, 3) := by decide +kernel
theorem dX3_bestLimit_56 : decode cX3_bestLimit 56 = .ok (.iload_n 1, 1) := by decide +kernel
theorem dX3_bestLimit_57 : decode cX3_bestLimit 57 = .ok (.iload 5, 2) := by decide +kernel
theorem dX3_bestLimit_59 : decode cX3_bestLimit 59 = .ok (.iastore, 1) := by decide +kernel
theorem dX3_bestLimit_60 : decode cX3_bestLimit 60 = .ok (.aload_n 0, 1) := by decide +kernel
theorem dX3_bestLimit_61 : decode cX3_bestLimit 61 = .ok (.getfield 16, 3) := by decide +kernel
theorem dX3_bestLimit_64 : decode cX3_bestLimit 64 = .ok (.invokevirtual 94, 3) := by decide +kernel
theorem dX3_bestLimit_67 : decode cX3_bestLimit 67 = .ok (.pop, 1) := by decide +kernel
theorem dX3_bestLimit_68 : decode cX3_bestLimit 68 = .ok (.aload_n 0, 1) := by decide +kernel
theorem dX3_bestLimit_69 : decode cX3_bestLimit 69 = .ok (.getfield 16, 3) := by decide +kernel
theorem dX3_bestLimit_72 : decode cX3_bestLimit 72 = .ok (.getfield 62, 3) := by decide +kernel
theorem dX3_bestLimit_75 : decode cX3_bestLimit 75 = .ok (.iload_n 1, 1) := by decide +kernel
theorem dX3_bestLimit_76 : decode cX3_bestLimit 76 = .ok (.iaload, 1) := by decide +kernel
theorem dX3_bestLimit_77 : decode cX3_bestLimit 77 = .ok (.iload 4, 2) := by decide +kernel
theorem dX3_bestLimit_79 : decode cX3_bestLimit 79 = .ok (.if_icmp .le 17, 3) := by decide +kernel
theorem dX3_bestLimit_82 : decode cX3_bestLimit 82 = .ok (.aload_n 0, 1) := by decide +kernel
theorem dX3_bestLimit_83 : decode cX3_bestLimit 83 = .ok (.getfield 16, 3) := by decide +kernel
theorem dX3_bestLimit_86 : decode cX3_bestLimit 86 = .ok (.getfield 62, 3) := by decide +kernel
theorem dX3_bestLimit_89 : decode cX3_bestLimit 89 = .ok (.iload_n 1, 1) := by decide +kernel
theorem dX3_bestLimit_90 : decode cX3_bestLimit 90 = .ok (.iaload, 1) := by decide +kernel
theorem dX3_bestLimit_91 : decode cX3_bestLimit 91 = .ok (.istore 4, 2) := by decide +kernel
theorem dX3_bestLimit_93 : decode cX3_bestLimit 93 = .ok (.iload 5, 2) := by decide +kernel
theorem dX3_bestLimit_95 : decode cX3_bestLimit 95 = .ok (.istore_n 3, 1) := by decide +kernel
theorem dX3_bestLimit_96 : decode cX3_bestLimit 96 = .ok (.iinc 5 1, 3) := by decide +kernel
theorem dX3_bestLimit_99 : decode cX3_bestLimit 99 = .ok (.goto (-68), 3) := by decide +kernel
theorem dX3_bestLimit_102 : decode cX3_bestLimit 102 = .ok (.iload_n 2, 1) := by decide +kernel
theorem dX3_bestLimit_103 : decode cX3_bestLimit 103 = .ok (.ifCond .ne 7, 3) := by decide +kernel
theorem dX3_bestLimit_106 : decode cX3_bestLimit 106 = .ok (.iload_n 3, 1) := by decide +kernel
theorem dX3_bestLimit_107 : decode cX3_bestLimit 107 = .ok (.goto 15, 3) := by decide +kernel
theorem dX3_bestLimit_110 : decode cX3_bestLimit 110 = .ok (.iload 4, 2) := by decide +kernel
theorem dX3_bestLimit_112 : decode cX3_bestLimit 112 = .ok (.aload_n 0, 1) := by decide +kernel
theorem dX3_bestLimit_113 : decode cX3_bestLimit 113 = .ok (.getfield 10, 3) := by decide +kernel
theorem dX3_bestLimit_116 : decode cX3_bestLimit 116 = .ok (.getfield 62, 3) := by decide +kernel
theorem dX3_bestLimit_119 : decode cX3_bestLimit 119 = .ok (.iload_n 1, 1) := by decide +kernel
theorem dX3_bestLimit_120 : decode cX3_bestLimit 120 = .ok (.iaload, 1) := by decide +kernel
theorem dX3_bestLimit_121 : decode cX3_bestLimit 121 = .ok (.isub, 1) := by decide +kernel
theorem dX3_bestLimit_122 : decode cX3_bestLimit 122 = .ok (.ireturn, 1) := by decide +kernel
set_option maxRecDepth 20000 in
theorem ggX3_coinsBehind_X3_isPlayer : GoodIn wsX3_coinsBehind wsX3_isPlayer := goodIn_r _ [8] (by decide +kernel) (by decide +kernel)
set_option maxRecDepth 20000 in
theorem gX3_coinsBehind_X3_isPlayer : GoodIn wsX3_coinsBehind (va_wsS RX3 52 yX3_isPlayer wsX3_isPlayer) := goodIn_app (goodIn_of _ (by decide +kernel)) ggX3_coinsBehind_X3_isPlayer
set_option maxRecDepth 20000 in
theorem ggX3_coinsBehind_X3_tryRounds : GoodIn wsX3_coinsBehind wsX3_tryRounds := goodIn_r _ [12, 3, 13, 14, 15, 16, 17, 18, 19, 20, 21, 22, 23, 24, 25, 26, 27, 28, 29, 30, 31, 32, 33, 34, 35, 36, 37, 38, 39, 40, 41, 42, 43, 44, 45, 46, 47, 48, 49, 50, 51, 52, 53, 54, 55, 56, 57, 58, 59, 60, 6, 7, 8, 61, 62, 63, 64, 65, 66, 67, 68, 69, 70, 71, 72, 73, 74, 75, 76, 77, 78, 79, 80, 81, 82, 83, 84, 85, 86, 87, 88, 89, 90, 91, 92, 93, 94, 95, 96, 97, 98, 99, 100, 101, 102, 103, 104, 105, 106, 107, 108, 109, 110, 111, 112, 113, 114, 115, 116, 117, 118, 119, 120, 121] (by decide +kernel) (by decide +kernel)
set_option maxRecDepth 20000 in
theorem gX3_coinsBehind_X3_tryRounds : GoodIn wsX3_coinsBehind (wsV RX3 159 RX3 yX3_tryRounds wsX3_tryRounds) := goodIn_app (goodIn_of _ (by decide +kernel)) ggX3_coinsBehind_X3_tryRounds
theorem dX3_coinsBehind_0 : decode cX3_coinsBehind 0 = .ok (.iload_n 1, 1) := by decide +kernel
theorem dX3_coinsBehind_1 : decode cX3_coinsBehind 1 = .ok (.invokestatic 52, 3) := by decide +kernel
theorem dX3_coinsBehind_4 : decode cX3_coinsBehind 4 = .ok (.ifCond .ne 6, 3) := by decide +kernel
theorem dX3_coinsBehind_7 : decode cX3_coinsBehind 7 = .ok (.ldc 56, 2) := by decide +kernel
theorem dX3_coinsBehind_9 : decode cX3_coinsBehind 9 = .ok (.ireturn, 1) := by decide +kernel
theorem dX3_coinsBehind_10 : decode cX3_coinsBehind 10 = .ok (.iload_n 2, 1) := by decide +kernel
theorem dX3_coinsBehind_11 : decode cX3_coinsBehind 11 = .ok (.iconst 1, 1) := by decide +kernel
theorem dX3_coinsBehind_12 : decode cX3_coinsBehind 12 = .ok (.if_icmp .lt 9, 3) := by decide +kernel
theorem dX3_coinsBehind_15 : decode cX3_coinsBehind 15 = .ok (.iload_n 2, 1) := by decide +kernel
theorem dX3_coinsBehind_16 : decode cX3_coinsBehind 16 = .ok (.bipush 100, 2) := by decide +kernel
theorem dX3_coinsBehind_18 : decode cX3_coinsBehind 18 = .ok (.if_icmp .le 6, 3) := by decide +kernel
theorem dX3_coinsBehind_21 : decode cX3_coinsBehind 21 = .ok (.ldc 37, 2) := by decide +kernel
theorem dX3_coinsBehind_23 : decode cX3_coinsBehind 23 = .ok (.ireturn, 1) := by decide +kernel
theorem dX3_coinsBehind_24 : decode cX3_coinsBehind 24 = .ok (.aload_n 0, 1) := by decide +kernel
theorem dX3_coinsBehind_25 : decode cX3_coinsBehind 25 = .ok (.iload_n 2, 1) := by decide +kernel
theorem dX3_coinsBehind_26 : decode cX3_coinsBehind 26 = .ok (.invokevirtual 159, 3) := by decide +kernel
theorem dX3_coinsBehind_29 : decode cX3_coinsBehind 29 = .ok (.aload_n 0, 1) := by decide +kernel
theorem dX3_coinsBehind_30 : decode cX3_coinsBehind 30 = .ok (.getfield 16, 3) := by decide +kernel
theorem dX3_coinsBehind_33 : decode cX3_coinsBehind 33 = .ok (.getfield 62, 3) := by decide +kernel
theorem dX3_coinsBehind_36 : decode cX3_coinsBehind 36 = .ok (.iload_n 1, 1) := by decide +kernel
theorem dX3_coinsBehind_37 : decode cX3_coinsBehind 37 = .ok (.iaload, 1) := by decide +kernel
theorem dX3_coinsBehind_38 : decode cX3_coinsBehind 38 = .ok (.ireturn, 1) := by decide +kernel
set_option maxRecDepth 20000 in
theorem ggX3_richest_X3_tryRounds : GoodIn wsX3_richest wsX3_tryRounds := goodIn_r _ [9, 2, 10, 11, 12, 13, 14, 15, 16, 17, 18, 19, 20, 21, 22, 23, 24, 25, 26, 27, 28, 29, 30, 31, 32, 33, 34, 35, 36, 37, 38, 39, 40, 41, 42, 43, 44, 45, 46, 47, 48, 49, 50, 51, 52, 53, 54, 55, 56, 57, 58, 8, 59, 60, 61, 62, 63, 64, 65, 66, 67, 68, 69, 70, 71, 72, 73, 74, 75, 76, 77, 78, 79, 80, 81, 82, 83, 84, 85, 86, 87, 88, 89, 90, 91, 92, 93, 94, 95, 96, 97, 98, 99, 100, 101, 102, 103, 104, 105, 106, 107, 108, 109, 110, 111, 112, 113, 114, 115, 116, 117, 118, 119, 120] (by decide +kernel) (by decide +kernel)
set_option maxRecDepth 20000 in
theorem gX3_richest_X3_tryRounds : GoodIn wsX3_richest (wsV RX3 159 RX3 yX3_tryRounds wsX3_tryRounds) := goodIn_app (goodIn_of _ (by decide +kernel)) ggX3_richest_X3_tryRounds
theorem dX3_richest_0 : decode cX3_richest 0 = .ok (.iload_n 1, 1) := by decide +kernel
theorem dX3_richest_1 : decode cX3_richest 1 = .ok (.iconst 1, 1) := by decide +kernel
theorem dX3_richest_2 : decode cX3_richest 2 = .ok (.if_icmp .lt 9, 3) := by decide +kernel
theorem dX3_richest_5 : decode cX3_richest 5 = .ok (.iload_n 1, 1) := by decide +kernel
theorem dX3_richest_6 : decode cX3_richest 6 = .ok (.bipush 100, 2) := by decide +kernel
theorem dX3_richest_8 : decode cX3_richest 8 = .ok (.if_icmp .le 6, 3) := by decide +kernel
theorem dX3_richest_11 : decode cX3_richest 11 = .ok (.ldc 37, 2) := by decide +kernel
theorem dX3_richest_13 : decode cX3_richest 13 = .ok (.ireturn, 1) := by decide +kernel
theorem dX3_richest_14 : decode cX3_richest 14 = .ok (.aload_n 0, 1) := by decide +kernel
theorem dX3_richest_15 : decode cX3_richest 15 = .ok (.iload_n 1, 1) := by decide +kernel
theorem dX3_richest_16 : decode cX3_richest 16 = .ok (.invokevirtual 159, 3) := by decide +kernel
theorem dX3_richest_19 : decode cX3_richest 19 = .ok (.iconst 0, 1) := by decide +kernel
theorem dX3_richest_20 : decode cX3_richest 20 = .ok (.istore_n 2, 1) := by decide +kernel
theorem dX3_richest_21 : decode cX3_richest 21 = .ok (.iconst 1, 1) := by decide +kernel
theorem dX3_richest_22 : decode cX3_richest 22 = .ok (.istore_n 3, 1) := by decide +kernel
theorem dX3_richest_23 : decode cX3_richest 23 = .ok (.iload_n 3, 1) := by decide +kernel
theorem dX3_richest_24 : decode cX3_richest 24 = .ok (.iconst 5, 1) := by decide +kernel
theorem dX3_richest_25 : decode cX3_richest 25 = .ok (.if_icmp .ge 63, 3) := by decide +kernel
theorem dX3_richest_28 : decode cX3_richest 28 = .ok (.aload_n 0, 1) := by decide +kernel
theorem dX3_richest_29 : decode cX3_richest 29 = .ok (.getfield 16, 3) := by decide +kernel
theorem dX3_richest_32 : decode cX3_richest 32 = .ok (.getfield 62, 3) := by decide +kernel
theorem dX3_richest_35 : decode cX3_richest 35 = .ok (.iload_n 3, 1) := by decide +kernel
theorem dX3_richest_36 : decode cX3_richest 36 = .ok (.iaload, 1) := by decide +kernel
theorem dX3_richest_37 : decode cX3_richest 37 = .ok (.aload_n 0, 1) := by decide +kernel
theorem dX3_richest_38 : decode cX3_richest 38 = .ok (.getfield 16, 3) := by decide +kernel
theorem dX3_richest_41 : decode cX3_richest 41 = .ok (.getfield 62, 3) := by decide +kernel
theorem dX3_richest_44 : decode cX3_richest 44 = .ok (.iload_n 2, 1) := by decide +kernel
theorem dX3_richest_45 : decode cX3_richest 45 = .ok (.iaload, 1) := by decide +kernel
theorem dX3_richest_46 : decode cX3_richest 46 = .ok (.isub, 1) := by decide +kernel
theorem dX3_richest_47 : decode cX3_richest 47 = .ok (.istore 4, 2) := by decide +kernel
theorem dX3_richest_49 : decode cX3_richest 49 = .ok (.iload 4, 2) := by decide +kernel
theorem dX3_richest_51 : decode cX3_richest 51 = .ok (.ifCond .gt 29, 3) := by decide +kernel
theorem dX3_richest_54 : decode cX3_richest 54 = .ok (.iload 4, 2) := by decide +kernel
theorem dX3_richest_56 : decode cX3_richest 56 = .ok (.ifCond .ne 26, 3) := by decide +kernel
theorem dX3_richest_59 : decode cX3_richest 59 = .ok (.aload_n 0, 1) := by decide +kernel
theorem dX3_richest_60 : decode cX3_richest 60 = .ok (.getfield 16, 3) := by decide +kernel
theorem dX3_richest_63 : decode cX3_richest 63 = .ok (.getfield 121, 3) := by decide +kernel
theorem dX3_richest_66 : decode cX3_richest 66 = .ok (.iload_n 3, 1) := by decide +kernel
theorem dX3_richest_67 : decode cX3_richest 67 = .ok (.iaload, 1) := by decide +kernel
theorem dX3_richest_68 : decode cX3_richest 68 = .ok (.aload_n 0, 1) := by decide +kernel
theorem dX3_richest_69 : decode cX3_richest 69 = .ok (.getfield 16, 3) := by decide +kernel
theorem dX3_richest_72 : decode cX3_richest 72 = .ok (.getfield 121, 3) := by decide +kernel
theorem dX3_richest_75 : decode cX3_richest 75 = .ok (.iload_n 2, 1) := by decide +kernel
theorem dX3_richest_76 : decode cX3_richest 76 = .ok (.iaload, 1) := by decide +kernel
theorem dX3_richest_77 : decode cX3_richest 77 = .ok (.if_icmp .ge 5, 3) := by decide +kernel
theorem dX3_richest_80 : decode cX3_richest 80 = .ok (.iload_n 3, 1) := by decide +kernel
theorem dX3_richest_81 : decode cX3_richest 81 = .ok (.istore_n 2, 1) := by decide +kernel
theorem dX3_richest_82 : decode cX3_richest 82 = .ok (.iinc 3 1, 3) := by decide +kernel
theorem dX3_richest_85 : decode cX3_richest 85 = .ok (.goto (-62), 3) := by decide +kernel
theorem dX3_richest_88 : decode cX3_richest 88 = .ok (.iload_n 2, 1) := by decide +kernel
theorem dX3_richest_89 : decode cX3_richest 89 = .ok (.ireturn, 1) := by decide +kernel
set_option maxRecDepth 20000 in
theorem ggX3_movesLeft_X2_copyFrom : GoodIn wsX3_movesLeft wsX2_copyFrom := goodIn_r _ [9, 10, 11, 12, 13, 14, 15, 16, 17, 18, 19, 20, 21, 22, 23, 24, 25, 26, 103, 104, 105, 106, 107, 108, 109, 110, 111, 112, 113, 114, 115] (by decide +kernel) (by decide +kernel)
set_option maxRecDepth 20000 in
theorem gX3_movesLeft_X2_copyFrom : GoodIn wsX3_movesLeft (wsV RX3 163 RX2 yX2_copyFrom wsX2_copyFrom) := goodIn_app (goodIn_of _ (by decide +kernel)) ggX3_movesLeft_X2_copyFrom
set_option maxRecDepth 20000 in
theorem ggX3_movesLeft_X2_playRound : GoodIn wsX3_movesLeft wsX2_playRound := goodIn_r _ [30, 24, 31, 32, 33, 8, 34, 25, 35, 36, 37, 38, 18, 39, 40, 41, 42, 43, 17, 44, 45, 46, 47, 10, 48, 49, 50, 51, 19, 52, 53, 54, 55, 56, 57, 58, 16, 59, 60, 61, 62, 63, 64, 65, 66, 20, 67, 68, 69, 70, 71, 72, 73, 74, 75, 76, 77, 78, 79, 80, 81, 82, 83, 84, 85, 21, 86, 87, 88, 89, 23, 90, 91, 92, 93, 22, 26, 94, 95, 96, 97, 15, 103, 104, 105, 106, 107, 108, 109, 110, 111, 112, 113, 114, 115] (by decide +kernel) (by decide +kernel)
set_option maxRecDepth 20000 in
theorem gX3_movesLeft_X2_playRound : GoodIn wsX3_movesLeft (wsV RX3 94 RX2 yX2_playRound wsX2_playRound) := goodIn_app (goodIn_of _ (by decide +kernel)) ggX3_movesLeft_X2_playRound
theorem dX3_movesLeft_0 : decode cX3_movesLeft 0 = .ok (.aload_n 0, 1) := by decide +kernel
theorem dX3_movesLeft_1 : decode cX3_movesLeft 1 = .ok (.getfield 10, 3) := by decide +kernel
theorem dX3_movesLeft_4 : decode cX3_movesLeft 4 = .ok (.getfield 74, 3) := by decide +kernel
theorem dX3_movesLeft_7 : decode cX3_movesLeft 7 = .ok (.ifCond .ne 6, 3) := by decide +kernel
theorem dX3_movesLeft_10 : decode cX3_movesLeft 10 = .ok (.ldc 61, 2) := by decide +kernel
theorem dX3_movesLeft_12 : decode cX3_movesLeft 12 = .ok (.ireturn, 1) := by decide +kernel
theorem dX3_movesLeft_13 : decode cX3_movesLeft 13 = .ok (.aload_n 0, 1) := by decide +kernel
theorem dX3_movesLeft_14 : decode cX3_movesLeft 14 = .ok (.getfield 16, 3) := by decide +kernel
theorem dX3_movesLeft_17 : decode cX3_movesLeft 17 = .ok (.aload_n 0, 1) := by decide +kernel
theorem dX3_movesLeft_18 : decode cX3_movesLeft 18 = .ok (.getfield 10, 3) := by decide +kernel
theorem dX3_movesLeft_21 : decode cX3_movesLeft 21 = .ok (.invokevirtual 163, 3) := by decide +kernel
theorem dX3_movesLeft_24 : decode cX3_movesLeft 24 = .ok (.aload_n 0, 1) := by decide +kernel
theorem dX3_movesLeft_25 : decode cX3_movesLeft 25 = .ok (.getfield 16, 3) := by decide +kernel
theorem dX3_movesLeft_28 : decode cX3_movesLeft 28 = .ok (.invokevirtual 94, 3) := by decide +kernel
theorem dX3_movesLeft_31 : decode cX3_movesLeft 31 = .ok (.ireturn, 1) := by decide +kernel
theorem dX3_wipe_0 : decode cX3_wipe 0 = .ok (.aload_n 0, 1) := by decide +kernel
theorem dX3_wipe_1 : decode cX3_wipe 1 = .ok (.getfield 33, 3) := by decide +kernel
theorem dX3_wipe_4 : decode cX3_wipe 4 = .ok (.getfield 105, 3) := by decide +kernel
theorem dX3_wipe_7 : decode cX3_wipe 7 = .ok (.istore_n 1, 1) := by decide +kernel
theorem dX3_wipe_8 : decode cX3_wipe 8 = .ok (.aload_n 0, 1) := by decide +kernel
theorem dX3_wipe_9 : decode cX3_wipe 9 = .ok (.getfield 33, 3) := by decide +kernel
theorem dX3_wipe_12 : decode cX3_wipe 12 = .ok (.iconst 0, 1) := by decide +kernel
theorem dX3_wipe_13 : decode cX3_wipe 13 = .ok (.putfield 105, 3) := by decide +kernel
theorem dX3_wipe_16 : decode cX3_wipe 16 = .ok (.iload_n 1, 1) := by decide +kernel
theorem dX3_wipe_17 : decode cX3_wipe 17 = .ok (.ireturn, 1) := by decide +kernel
set_option maxRecDepth 20000 in
theorem ggX3_fault_X1_faultIndex : GoodIn wsX3_fault wsX1_faultIndex := goodIn_r _ [6, 7, 8, 9, 10, 11, 5, 12, 13, 14, 15, 16, 17, 18, 19, 25, 26] (by decide +kernel) (by decide +kernel)
set_option maxRecDepth 20000 in
theorem gX3_fault_X1_faultIndex : GoodIn wsX3_fault (wsV RX3 100 RX1 yX1_faultIndex wsX1_faultIndex) := goodIn_app (goodIn_of _ (by decide +kernel)) ggX3_fault_X1_faultIndex
theorem dX3_fault_0 : decode cX3_fault 0 = .ok (.aload_n 0, 1) := by decide +kernel
theorem dX3_fault_1 : decode cX3_fault 1 = .ok (.getfield 33, 3) := by decide +kernel
theorem dX3_fault_4 : decode cX3_fault 4 = .ok (.invokevirtual 100, 3) := by decide +kernel
theorem dX3_fault_7 : decode cX3_fault 7 = .ok (.ireturn, 1) := by decide +kernel
set_option maxRecDepth 20000 in
theorem ggX3_undo_X0_takeBack : GoodIn wsX3_undo wsX0_takeBack := goodIn_r _ [9, 10, 11, 12, 13, 14, 15, 16, 17, 18, 19, 20, 21, 22, 23, 24, 25, 26, 27, 28, 29, 30, 31, 32, 33, 34, 35, 36, 37, 38, 44, 45, 46, 47, 48, 49, 50, 51, 52, 53, 54, 55, 56, 57, 58, 59] (by decide +kernel) (by decide +kernel)
set_option maxRecDepth 20000 in
theorem gX3_undo_X0_takeBack : GoodIn wsX3_undo (wsV RX3 175 RX0 yX0_takeBack wsX0_takeBack) := goodIn_app (goodIn_of _ (by decide +kernel)) ggX3_undo_X0_takeBack
theorem dX3_undo_0 : decode cX3_undo 0 = .ok (.aload_n 0, 1) := by decide +kernel
theorem dX3_undo_1 : decode cX3_undo 1 = .ok (.getfield 22, 3) := by decide +kernel
theorem dX3_undo_4 : decode cX3_undo 4 = .ok (.getfield 158, 3) := by decide +kernel
theorem dX3_undo_7 : decode cX3_undo 7 = .ok (.ifCond .ne 6, 3) := by decide +kernel
theorem dX3_undo_10 : decode cX3_undo 10 = .ok (.ldc 61, 2) := by decide +kernel
theorem dX3_undo_12 : decode cX3_undo 12 = .ok (.ireturn, 1) := by decide +kernel
theorem dX3_undo_13 : decode cX3_undo 13 = .ok (.aload_n 0, 1) := by decide +kernel
theorem dX3_undo_14 : decode cX3_undo 14 = .ok (.getfield 22, 3) := by decide +kernel
theorem dX3_undo_17 : decode cX3_undo 17 = .ok (.aload_n 0, 1) := by decide +kernel
theorem dX3_undo_18 : decode cX3_undo 18 = .ok (.getfield 10, 3) := by decide +kernel
theorem dX3_undo_21 : decode cX3_undo 21 = .ok (.invokevirtual 175, 3) := by decide +kernel
theorem dX3_undo_24 : decode cX3_undo 24 = .ok (.aload_n 0, 1) := by decide +kernel
theorem dX3_undo_25 : decode cX3_undo 25 = .ok (.getfield 22, 3) := by decide +kernel
theorem dX3_undo_28 : decode cX3_undo 28 = .ok (.getfield 158, 3) := by decide +kernel
theorem dX3_undo_31 : decode cX3_undo 31 = .ok (.ireturn, 1) := by decide +kernel
set_option maxRecDepth 20000 in
theorem ggX3_save_X2_init : GoodIn wsX3_save wsX2_init := goodIn_r _ [9, 10, 11, 12, 13, 14, 15, 16, 17, 18, 19, 20, 21, 22, 23, 24, 25, 26, 27, 45, 46, 47, 48, 49, 50, 51, 52, 53, 54, 55, 56, 57] (by decide +kernel) (by decide +kernel)
set_option maxRecDepth 20000 in
theorem gX3_save_X2_init_n9 : GoodIn wsX3_save (wsX2_init) := ggX3_save_X2_init
set_option maxRecDepth 20000 in
theorem ggX3_save_X2_copyFrom : GoodIn wsX3_save wsX2_copyFrom := goodIn_r _ [31, 14, 32, 33, 34, 35, 15, 16, 17, 18, 20, 21, 22, 23, 24, 25, 26, 27, 45, 46, 47, 48, 49, 50, 51, 52, 53, 54, 55, 56, 57] (by decide +kernel) (by decide +kernel)
set_option maxRecDepth 20000 in
theorem gX3_save_X2_copyFrom : GoodIn wsX3_save (wsV RX3 163 RX2 yX2_copyFrom wsX2_copyFrom) := goodIn_app (goodIn_of _ (by decide +kernel)) ggX3_save_X2_copyFrom
set_option maxRecDepth 20000 in
theorem ggX3_save_X3_sum : GoodIn wsX3_save wsX3_sum := goodIn_r _ [39] (by decide +kernel) (by decide +kernel)
set_option maxRecDepth 20000 in
theorem gX3_save_X3_sum : GoodIn wsX3_save (va_wsS RX3 154 yX3_sum wsX3_sum) := goodIn_app (goodIn_of _ (by decide +kernel)) ggX3_save_X3_sum
theorem dX3_save_0 : decode cX3_save 0 = .ok (.iload_n 1, 1) := by decide +kernel
theorem dX3_save_1 : decode cX3_save 1 = .ok (.ifCond .lt 8, 3) := by decide +kernel
theorem dX3_save_4 : decode cX3_save 4 = .ok (.iload_n 1, 1) := by decide +kernel
theorem dX3_save_5 : decode cX3_save 5 = .ok (.iconst 2, 1) := by decide +kernel
theorem dX3_save_6 : decode cX3_save 6 = .ok (.if_icmp .lt 6, 3) := by decide +kernel
theorem dX3_save_9 : decode cX3_save 9 = .ok (.ldc 37, 2) := by decide +kernel
theorem dX3_save_11 : decode cX3_save 11 = .ok (.ireturn, 1) := by decide +kernel
theorem dX3_save_12 : decode cX3_save 12 = .ok (.aload_n 0, 1) := by decide +kernel
theorem dX3_save_13 : decode cX3_save 13 = .ok (.getfield 26, 3) := by decide +kernel
theorem dX3_save_16 : decode cX3_save 16 = .ok (.iload_n 1, 1) := by decide +kernel
theorem dX3_save_17 : decode cX3_save 17 = .ok (.aaload, 1) := by decide +kernel
theorem dX3_save_18 : decode cX3_save 18 = .ok (.astore_n 2, 1) := by decide +kernel
theorem dX3_save_19 : decode cX3_save 19 = .ok (.aload_n 2, 1) := by decide +kernel
theorem dX3_save_20 : decode cX3_save 20 = .ok (.ifnonnull 18, 3) := by decide +kernel
theorem dX3_save_23 : decode cX3_save 23 = .ok (.new 7, 3) := by decide +kernel
theorem dX3_save_26 : decode cX3_save 26 = .ok (.dup, 1) := by decide +kernel
theorem dX3_save_27 : decode cX3_save 27 = .ok (.invokespecial 9, 3) := by decide +kernel
theorem dX3_save_30 : decode cX3_save 30 = .ok (.astore_n 2, 1) := by decide +kernel
theorem dX3_save_31 : decode cX3_save 31 = .ok (.aload_n 0, 1) := by decide +kernel
theorem dX3_save_32 : decode cX3_save 32 = .ok (.getfield 26, 3) := by decide +kernel
theorem dX3_save_35 : decode cX3_save 35 = .ok (.iload_n 1, 1) := by decide +kernel
theorem dX3_save_36 : decode cX3_save 36 = .ok (.aload_n 2, 1) := by decide +kernel
theorem dX3_save_37 : decode cX3_save 37 = .ok (.aastore, 1) := by decide +kernel
theorem dX3_save_38 : decode cX3_save 38 = .ok (.aload_n 2, 1) := by decide +kernel
theorem dX3_save_39 : decode cX3_save 39 = .ok (.aload_n 0, 1) := by decide +kernel
theorem dX3_save_40 : decode cX3_save 40 = .ok (.getfield 10, 3) := by decide +kernel
theorem dX3_save_43 : decode cX3_save 43 = .ok (.invokevirtual 163, 3) := by decide +kernel
theorem dX3_save_46 : decode cX3_save 46 = .ok (.aload_n 0, 1) := by decide +kernel
theorem dX3_save_47 : decode cX3_save 47 = .ok (.getfield 10, 3) := by decide +kernel
theorem dX3_save_50 : decode cX3_save 50 = .ok (.getfield 62, 3) := by decide +kernel
theorem dX3_save_53 : decode cX3_save 53 = .ok (.invokestatic 154, 3) := by decide +kernel
theorem dX3_save_56 : decode cX3_save 56 = .ok (.ireturn, 1) := by decide +kernel
set_option maxRecDepth 20000 in
theorem ggX3_restore_X0_keep : GoodIn wsX3_restore wsX0_keep := goodIn_r _ [11, 12, 13, 14, 15, 16, 17, 18, 19, 20, 21, 22, 23, 24, 25, 26, 27, 28, 29, 30, 31, 32, 33, 34, 35, 36, 37, 38, 39, 40, 41, 42, 43, 44, 45, 46, 47, 48, 49, 50, 51, 52, 53, 77, 78, 79, 64, 65, 66, 67, 68, 69, 70, 71, 72, 73, 74, 75, 76] (by decide +kernel) (by decide +kernel)
set_option maxRecDepth 20000 in
theorem gX3_restore_X0_keep : GoodIn wsX3_restore (wsV RX3 45 RX0 yX0_keep wsX0_keep) := goodIn_app (goodIn_of _ (by decide +kernel)) ggX3_restore_X0_keep
set_option maxRecDepth 20000 in
theorem ggX3_restore_X2_copyFrom : GoodIn wsX3_restore wsX2_copyFrom := goodIn_r _ [49, 32, 50, 51, 52, 53, 33, 34, 35, 36, 38, 39, 40, 41, 42, 43, 44, 45, 64, 65, 66, 67, 68, 69, 70, 71, 72, 73, 74, 75, 76] (by decide +kernel) (by decide +kernel)
set_option maxRecDepth 20000 in
theorem gX3_restore_X2_copyFrom : GoodIn wsX3_restore (wsV RX3 163 RX2 yX2_copyFrom wsX2_copyFrom) := goodIn_app (goodIn_of _ (by decide +kernel)) ggX3_restore_X2_copyFrom
set_option maxRecDepth 20000 in
theorem ggX3_restore_X3_sum : GoodIn wsX3_restore wsX3_sum := goodIn_r _ [58] (by decide +kernel) (by decide +kernel)
set_option maxRecDepth 20000 in
theorem gX3_restore_X3_sum : GoodIn wsX3_restore (va_wsS RX3 154 yX3_sum wsX3_sum) := goodIn_app (goodIn_of _ (by decide +kernel)) ggX3_restore_X3_sum
theorem dX3_restore_0 : decode cX3_restore 0 = .ok (.iload_n 1, 1) := by decide +kernel
theorem dX3_restore_1 : decode cX3_restore 1 = .ok (.ifCond .lt 8, 3) := by decide +kernel
theorem dX3_restore_4 : decode cX3_restore 4 = .ok (.iload_n 1, 1) := by decide +kernel
theorem dX3_restore_5 : decode cX3_restore 5 = .ok (.iconst 2, 1) := by decide +kernel
theorem dX3_restore_6 : decode cX3_restore 6 = .ok (.if_icmp .lt 6, 3) := by decide +kernel
theorem dX3_restore_9 : decode cX3_restore 9 = .ok (.ldc 37, 2) := by decide +kernel
theorem dX3_restore_11 : decode cX3_restore 11 = .ok (.ireturn, 1) := by decide +kernel
theorem dX3_restore_12 : decode cX3_restore 12 = .ok (.aload_n 0, 1) := by decide +kernel
theorem dX3_restore_13 : decode cX3_restore 13 = .ok (.getfield 26, 3) := by decide +kernel
theorem dX3_restore_16 : decode cX3_restore 16 = .ok (.iload_n 1, 1) := by decide +kernel
theorem dX3_restore_17 : decode cX3_restore 17 = .ok (.aaload, 1) := by decide +kernel
theorem dX3_restore_18 : decode cX3_restore 18 = .ok (.astore_n 2, 1) := by decide +kernel
theorem dX3_restore_19 : decode cX3_restore 19 = .ok (.aload_n 2, 1) := by decide +kernel
theorem dX3_restore_20 : decode cX3_restore 20 = .ok (.ifnonnull 6, 3) := by decide +kernel
theorem dX3_restore_23 : decode cX3_restore 23 = .ok (.ldc 61, 2) := by decide +kernel
theorem dX3_restore_25 : decode cX3_restore 25 = .ok (.ireturn, 1) := by decide +kernel
theorem dX3_restore_26 : decode cX3_restore 26 = .ok (.aload_n 0, 1) := by decide +kernel
theorem dX3_restore_27 : decode cX3_restore 27 = .ok (.getfield 22, 3) := by decide +kernel
theorem dX3_restore_30 : decode cX3_restore 30 = .ok (.aload_n 0, 1) := by decide +kernel
theorem dX3_restore_31 : decode cX3_restore 31 = .ok (.getfield 10, 3) := by decide +kernel
theorem dX3_restore_34 : decode cX3_restore 34 = .ok (.invokevirtual 45, 3) := by decide +kernel
theorem dX3_restore_37 : decode cX3_restore 37 = .ok (.aload_n 0, 1) := by decide +kernel
theorem dX3_restore_38 : decode cX3_restore 38 = .ok (.getfield 10, 3) := by decide +kernel
theorem dX3_restore_41 : decode cX3_restore 41 = .ok (.aload_n 2, 1) := by decide +kernel
theorem dX3_restore_42 : decode cX3_restore 42 = .ok (.invokevirtual 163, 3) := by decide +kernel
theorem dX3_restore_45 : decode cX3_restore 45 = .ok (.aload_n 0, 1) := by decide +kernel
theorem dX3_restore_46 : decode cX3_restore 46 = .ok (.getfield 10, 3) := by decide +kernel
theorem dX3_restore_49 : decode cX3_restore 49 = .ok (.getfield 62, 3) := by decide +kernel
theorem dX3_restore_52 : decode cX3_restore 52 = .ok (.invokestatic 154, 3) := by decide +kernel
theorem dX3_restore_55 : decode cX3_restore 55 = .ok (.ireturn, 1) := by decide +kernel
theorem dX3_isPlayer_0 : decode cX3_isPlayer 0 = .ok (.iload_n 0, 1) := by decide +kernel
theorem dX3_isPlayer_1 : decode cX3_isPlayer 1 = .ok (.ifCond .lt 12, 3) := by decide +kernel
theorem dX3_isPlayer_4 : decode cX3_isPlayer 4 = .ok (.iload_n 0, 1) := by decide +kernel
theorem dX3_isPlayer_5 : decode cX3_isPlayer 5 = .ok (.iconst 5, 1) := by decide +kernel
theorem dX3_isPlayer_6 : decode cX3_isPlayer 6 = .ok (.if_icmp .ge 7, 3) := by decide +kernel
theorem dX3_isPlayer_9 : decode cX3_isPlayer 9 = .ok (.iconst 1, 1) := by decide +kernel
theorem dX3_isPlayer_10 : decode cX3_isPlayer 10 = .ok (.goto 4, 3) := by decide +kernel
theorem dX3_isPlayer_13 : decode cX3_isPlayer 13 = .ok (.iconst 0, 1) := by decide +kernel
theorem dX3_isPlayer_14 : decode cX3_isPlayer 14 = .ok (.ireturn, 1) := by decide +kernel
theorem dX3_isPrize_0 : decode cX3_isPrize 0 = .ok (.iload_n 0, 1) := by decide +kernel
theorem dX3_isPrize_1 : decode cX3_isPrize 1 = .ok (.ifCond .lt 12, 3) := by decide +kernel
theorem dX3_isPrize_4 : decode cX3_isPrize 4 = .ok (.iload_n 0, 1) := by decide +kernel
theorem dX3_isPrize_5 : decode cX3_isPrize 5 = .ok (.iconst 5, 1) := by decide +kernel
theorem dX3_isPrize_6 : decode cX3_isPrize 6 = .ok (.if_icmp .ge 7, 3) := by decide +kernel
theorem dX3_isPrize_9 : decode cX3_isPrize 9 = .ok (.iconst 1, 1) := by decide +kernel
theorem dX3_isPrize_10 : decode cX3_isPrize 10 = .ok (.goto 4, 3) := by decide +kernel
theorem dX3_isPrize_13 : decode cX3_isPrize 13 = .ok (.iconst 0, 1) := by decide +kernel
theorem dX3_isPrize_14 : decode cX3_isPrize 14 = .ok (.ireturn, 1) := by decide +kernel
theorem dX3_sum_0 : decode cX3_sum 0 = .ok (.iconst 0, 1) := by decide +kernel
theorem dX3_sum_1 : decode cX3_sum 1 = .ok (.istore_n 1, 1) := by decide +kernel
theorem dX3_sum_2 : decode cX3_sum 2 = .ok (.aload_n 0, 1) := by decide +kernel
theorem dX3_sum_3 : decode cX3_sum 3 = .ok (.astore_n 2, 1) := by decide +kernel
theorem dX3_sum_4 : decode cX3_sum 4 = .ok (.aload_n 2, 1) := by decide +kernel
theorem dX3_sum_5 : decode cX3_sum 5 = .ok (.arraylength, 1) := by decide +kernel
theorem dX3_sum_6 : decode cX3_sum 6 = .ok (.istore_n 3, 1) := by decide +kernel
theorem dX3_sum_7 : decode cX3_sum 7 = .ok (.iconst 0, 1) := by decide +kernel
theorem dX3_sum_8 : decode cX3_sum 8 = .ok (.istore 4, 2) := by decide +kernel
theorem dX3_sum_10 : decode cX3_sum 10 = .ok (.iload 4, 2) := by decide +kernel
theorem dX3_sum_12 : decode cX3_sum 12 = .ok (.iload_n 3, 1) := by decide +kernel
theorem dX3_sum_13 : decode cX3_sum 13 = .ok (.if_icmp .ge 20, 3) := by decide +kernel
theorem dX3_sum_16 : decode cX3_sum 16 = .ok (.aload_n 2, 1) := by decide +kernel
theorem dX3_sum_17 : decode cX3_sum 17 = .ok (.iload 4, 2) := by decide +kernel
theorem dX3_sum_19 : decode cX3_sum 19 = .ok (.iaload, 1) := by decide +kernel
theorem dX3_sum_20 : decode cX3_sum 20 = .ok (.istore 5, 2) := by decide +kernel
theorem dX3_sum_22 : decode cX3_sum 22 = .ok (.iload_n 1, 1) := by decide +kernel
theorem dX3_sum_23 : decode cX3_sum 23 = .ok (.iload 5, 2) := by decide +kernel
theorem dX3_sum_25 : decode cX3_sum 25 = .ok (.iadd, 1) := by decide +kernel
theorem dX3_sum_26 : decode cX3_sum 26 = .ok (.istore_n 1, 1) := by decide +kernel
theorem dX3_sum_27 : decode cX3_sum 27 = .ok (.iinc 4 1, 3) := by decide +kernel
theorem dX3_sum_30 : decode cX3_sum 30 = .ok (.goto (-20), 3) := by decide +kernel
theorem dX3_sum_33 : decode cX3_sum 33 = .ok (.iload_n 1, 1) := by decide +kernel
theorem dX3_sum_34 : decode cX3_sum 34 = .ok (.ireturn, 1) := by decide +kernel
set_option maxRecDepth 20000 in
theorem ggX3_tryRounds_X2_copyFrom : GoodIn wsX3_tryRounds wsX2_copyFrom := goodIn_r _ [7, 8, 9, 10, 11, 12, 13, 14, 15, 16, 17, 18, 19, 20, 21, 22, 23, 24, 101, 102, 103, 104, 105, 106, 107, 108, 109, 110, 111, 112, 113] (by decide +kernel) (by decide +kernel)
set_option maxRecDepth 20000 in
theorem gX3_tryRounds_X2_copyFrom : GoodIn wsX3_tryRounds (wsV RX3 163 RX2 yX2_copyFrom wsX2_copyFrom) := goodIn_app (goodIn_of _ (by decide +kernel)) ggX3_tryRounds_X2_copyFrom
set_option maxRecDepth 20000 in
theorem ggX3_tryRounds_X2_playRound : GoodIn wsX3_tryRounds wsX2_playRound := goodIn_r _ [28, 22, 29, 30, 31, 6, 32, 23, 33, 34, 35, 36, 16, 37, 38, 39, 40, 41, 15, 42, 43, 44, 45, 8, 46, 47, 48, 49, 17, 50, 51, 52, 53, 54, 55, 56, 14, 57, 58, 59, 60, 61, 62, 63, 64, 18, 65, 66, 67, 68, 69, 70, 71, 72, 73, 74, 75, 76, 77, 78, 79, 80, 81, 82, 83, 19, 84, 85, 86, 87, 21, 88, 89, 90, 91, 20, 24, 92, 93, 94, 95, 13, 101, 102, 103, 104, 105, 106, 107, 108, 109, 110, 111, 112, 113] (by decide +kernel) (by decide +kernel)
set_option maxRecDepth 20000 in
theorem gX3_tryRounds_X2_playRound : GoodIn wsX3_tryRounds (wsV RX3 94 RX2 yX2_playRound wsX2_playRound) := goodIn_app (goodIn_of _ (by decide +kernel)) ggX3_tryRounds_X2_playRound
theorem dX3_tryRounds_0 : decode cX3_tryRounds 0 = .ok (.aload_n 0, 1) := by decide +kernel
theorem dX3_tryRounds_1 : decode cX3_tryRounds 1 = .ok (.getfield 16, 3) := by decide +kernel
theorem dX3_tryRounds_4 : decode cX3_tryRounds 4 = .ok (.aload_n 0, 1) := by decide +kernel
theorem dX3_tryRounds_5 : decode cX3_tryRounds 5 = .ok (.getfield 10, 3) := by decide +kernel
theorem dX3_tryRounds_8 : decode cX3_tryRounds 8 = .ok (.invokevirtual 163, 3) := by decide +kernel
theorem dX3_tryRounds_11 : decode cX3_tryRounds 11 = .ok (.iconst 0, 1) := by decide +kernel
theorem dX3_tryRounds_12 : decode cX3_tryRounds 12 = .ok (.istore_n 2, 1) := by decide +kernel
theorem dX3_tryRounds_13 : decode cX3_tryRounds 13 = .ok (.iload_n 2, 1) := by decide +kernel
theorem dX3_tryRounds_14 : decode cX3_tryRounds 14 = .ok (.iload_n 1, 1) := by decide +kernel
theorem dX3_tryRounds_15 : decode cX3_tryRounds 15 = .ok (.if_icmp .ge 17, 3) := by decide +kernel
theorem dX3_tryRounds_18 : decode cX3_tryRounds 18 = .ok (.aload_n 0, 1) := by decide +kernel
theorem dX3_tryRounds_19 : decode cX3_tryRounds 19 = .ok (.getfield 16, 3) := by decide +kernel
theorem dX3_tryRounds_22 : decode cX3_tryRounds 22 = .ok (.invokevirtual 94, 3) := by decide +kernel
theorem dX3_tryRounds_25 : decode cX3_tryRounds 25 = .ok (.pop, 1) := by decide +kernel
theorem dX3_tryRounds_26 : decode cX3_tryRounds 26 = .ok (.iinc 2 1, 3) := by decide +kernel
theorem dX3_tryRounds_29 : decode cX3_tryRounds 29 = .ok (.goto (-16), 3) := by decide +kernel
theorem dX3_tryRounds_32 : decode cX3_tryRounds 32 = .ok (.return_, 1) := by decide +kernel
set_option maxRecDepth 20000 in
theorem ggX3_doMove_X2_start : GoodIn wsX3_doMove wsX2_start := goodIn_r _ [8, 9, 10, 11, 12, 13, 7, 14, 15, 16, 99, 100, 101, 102, 103, 104, 105, 106, 107, 108, 109, 110, 111] (by decide +kernel) (by decide +kernel)
set_option maxRecDepth 20000 in
theorem gX3_doMove_X2_start : GoodIn wsX3_doMove (wsV RX3 78 RX2 yX2_start wsX2_start) := goodIn_app (goodIn_of _ (by decide +kernel)) ggX3_doMove_X2_start
set_option maxRecDepth 20000 in
theorem ggX3_doMove_X2_playRound : GoodIn wsX3_doMove wsX2_playRound := goodIn_r _ [20, 9, 21, 5, 6, 7, 8, 10, 11, 12, 13, 14, 15, 16, 22, 23, 24, 25, 26, 27, 28, 29, 30, 31, 32, 33, 34, 35, 36, 37, 38, 39, 40, 41, 42, 43, 44, 45, 46, 47, 48, 49, 50, 51, 52, 53, 54, 55, 56, 57, 58, 59, 60, 61, 62, 63, 64, 65, 66, 67, 68, 69, 70, 71, 72, 73, 74, 75, 76, 77, 78, 79, 80, 81, 82, 83, 84, 85, 86, 87, 88, 89, 99, 100, 101, 102, 103, 104, 105, 106, 107, 108, 109, 110, 111] (by decide +kernel) (by decide +kernel)
set_option maxRecDepth 20000 in
theorem gX3_doMove_X2_playRound : GoodIn wsX3_doMove (wsV RX3 94 RX2 yX2_playRound wsX2_playRound) := goodIn_app (goodIn_of _ (by decide +kernel)) ggX3_doMove_X2_playRound
set_option maxRecDepth 20000 in
theorem ggX3_doMove_X2_dropOut : GoodIn wsX3_doMove wsX2_dropOut := goodIn_r _ [57, 10, 16, 53, 31, 37, 38, 39, 58, 59, 60, 7, 61, 9, 62, 63, 64, 65, 66, 67, 68, 69, 70, 71, 72, 36, 44, 73, 74, 75, 76, 77, 78, 15, 79, 80, 81, 82, 83, 84, 85, 86, 87, 88, 89, 49, 50, 51, 52, 11, 12, 13, 14, 99, 100, 101, 102, 103, 104, 105, 106, 107, 108, 109, 110, 111] (by decide +kernel) (by decide +kernel)
set_option maxRecDepth 20000 in
theorem gX3_doMove_X2_dropOut : GoodIn wsX3_doMove (wsV RX3 88 RX2 yX2_dropOut wsX2_dropOut) := goodIn_app (goodIn_of _ (by decide +kernel)) ggX3_doMove_X2_dropOut
set_option maxRecDepth 20000 in
theorem ggX3_doMove_X2_actByLimit : GoodIn wsX3_doMove wsX2_actByLimit := goodIn_r _ [25, 10, 26, 27, 28, 29, 7, 30, 9, 16, 31, 32, 33, 34, 35, 36, 37, 38, 39, 40, 41, 42, 43, 44, 45, 46, 47, 48, 49, 50, 51, 52, 15, 53, 11, 12, 13, 14, 54, 55, 56, 57, 58, 59, 60, 61, 62, 63, 64, 65, 66, 67, 68, 69, 70, 71, 72, 73, 74, 75, 76, 77, 78, 79, 80, 81, 82, 83, 84, 85, 86, 87, 88, 89, 99, 100, 101, 102, 103, 104, 105, 106, 107, 108, 109, 110, 111] (by decide +kernel) (by decide +kernel)
set_option maxRecDepth 20000 in
theorem gX3_doMove_X2_actByLimit : GoodIn wsX3_doMove (wsV RX3 91 RX2 yX2_actByLimit wsX2_actByLimit) := goodIn_app (goodIn_of _ (by decide +kernel)) ggX3_doMove_X2_actByLimit
set_option maxRecDepth 20000 in
theorem ggX3_doMove_X2_mayBid : GoodIn wsX3_doMove wsX2_mayBid := goodIn_r _ [43, 9, 10, 44, 37, 38, 39, 27, 28, 29, 7, 30, 16, 31, 32, 33, 34, 35, 36, 99, 100, 101, 102, 103, 104, 105, 106, 107, 108, 109, 110, 111] (by decide +kernel) (by decide +kernel)
set_option maxRecDepth 20000 in
theorem gX3_doMove_X2_mayBid : GoodIn wsX3_doMove (wsV RX3 82 RX2 yX2_mayBid wsX2_mayBid) := goodIn_app (goodIn_of _ (by decide +kernel)) ggX3_doMove_X2_mayBid
set_option maxRecDepth 20000 in
theorem ggX3_doMove_X2_takeBid : GoodIn wsX3_doMove wsX2_takeBid := goodIn_r _ [48, 10, 36, 37, 38, 39, 49, 50, 51, 7, 52, 15, 53, 16, 11, 12, 13, 14, 99, 100, 101, 102, 103, 104, 105, 106, 107, 108, 109, 110, 111] (by decide +kernel) (by decide +kernel)
set_option maxRecDepth 20000 in
theorem gX3_doMove_X2_takeBid : GoodIn wsX3_doMove (wsV RX3 85 RX2 yX2_takeBid wsX2_takeBid) := goodIn_app (goodIn_of _ (by decide +kernel)) ggX3_doMove_X2_takeBid
theorem dX3_doMove_0 : decode cX3_doMove 0 = .ok (.iload_n 1, 1) := by decide +kernel
theorem dX3_doMove_1 : decode cX3_doMove 1 = .ok (.bipush 43, 2) := by decide +kernel
theorem dX3_doMove_3 : decode cX3_doMove 3 = .ok (.if_icmp .ne 26, 3) := by decide +kernel
theorem dX3_doMove_6 : decode cX3_doMove 6 = .ok (.aload_n 0, 1) := by decide +kernel
theorem dX3_doMove_7 : decode cX3_doMove 7 = .ok (.getfield 10, 3) := by decide +kernel
theorem dX3_doMove_10 : decode cX3_doMove 10 = .ok (.getfield 74, 3) := by decide +kernel
theorem dX3_doMove_13 : decode cX3_doMove 13 = .ok (.ifCond .eq 8, 3) := by decide +kernel
theorem dX3_doMove_16 : decode cX3_doMove 16 = .ok (.ldc 61, 2) := by decide +kernel
theorem dX3_doMove_18 : decode cX3_doMove 18 = .ok (.goto 10, 3) := by decide +kernel
theorem dX3_doMove_21 : decode cX3_doMove 21 = .ok (.aload_n 0, 1) := by decide +kernel
theorem dX3_doMove_22 : decode cX3_doMove 22 = .ok (.getfield 10, 3) := by decide +kernel
theorem dX3_doMove_25 : decode cX3_doMove 25 = .ok (.invokevirtual 78, 3) := by decide +kernel
theorem dX3_doMove_28 : decode cX3_doMove 28 = .ok (.ireturn, 1) := by decide +kernel
theorem dX3_doMove_29 : decode cX3_doMove 29 = .ok (.iload_n 1, 1) := by decide +kernel
theorem dX3_doMove_30 : decode cX3_doMove 30 = .ok (.bipush 33, 2) := by decide +kernel
theorem dX3_doMove_32 : decode cX3_doMove 32 = .ok (.if_icmp .ne 11, 3) := by decide +kernel
theorem dX3_doMove_35 : decode cX3_doMove 35 = .ok (.aload_n 0, 1) := by decide +kernel
theorem dX3_doMove_36 : decode cX3_doMove 36 = .ok (.getfield 10, 3) := by decide +kernel
theorem dX3_doMove_39 : decode cX3_doMove 39 = .ok (.invokevirtual 94, 3) := by decide +kernel
theorem dX3_doMove_42 : decode cX3_doMove 42 = .ok (.ireturn, 1) := by decide +kernel
theorem dX3_doMove_43 : decode cX3_doMove 43 = .ok (.aload_n 0, 1) := by decide +kernel
theorem dX3_doMove_44 : decode cX3_doMove 44 = .ok (.getfield 10, 3) := by decide +kernel
theorem dX3_doMove_47 : decode cX3_doMove 47 = .ok (.getfield 74, 3) := by decide +kernel
theorem dX3_doMove_50 : decode cX3_doMove 50 = .ok (.ifCond .ne 6, 3) := by decide +kernel
theorem dX3_doMove_53 : decode cX3_doMove 53 = .ok (.ldc 61, 2) := by decide +kernel
theorem dX3_doMove_55 : decode cX3_doMove 55 = .ok (.ireturn, 1) := by decide +kernel
theorem dX3_doMove_56 : decode cX3_doMove 56 = .ok (.iload_n 1, 1) := by decide +kernel
theorem dX3_doMove_57 : decode cX3_doMove 57 = .ok (.bipush 45, 2) := by decide +kernel
theorem dX3_doMove_59 : decode cX3_doMove 59 = .ok (.if_icmp .ne 11, 3) := by decide +kernel
theorem dX3_doMove_62 : decode cX3_doMove 62 = .ok (.aload_n 0, 1) := by decide +kernel
theorem dX3_doMove_63 : decode cX3_doMove 63 = .ok (.getfield 10, 3) := by decide +kernel
theorem dX3_doMove_66 : decode cX3_doMove 66 = .ok (.invokevirtual 88, 3) := by decide +kernel
theorem dX3_doMove_69 : decode cX3_doMove 69 = .ok (.ireturn, 1) := by decide +kernel
theorem dX3_doMove_70 : decode cX3_doMove 70 = .ok (.iload_n 1, 1) := by decide +kernel
theorem dX3_doMove_71 : decode cX3_doMove 71 = .ok (.bipush 42, 2) := by decide +kernel
theorem dX3_doMove_73 : decode cX3_doMove 73 = .ok (.if_icmp .ne 11, 3) := by decide +kernel
theorem dX3_doMove_76 : decode cX3_doMove 76 = .ok (.aload_n 0, 1) := by decide +kernel
theorem dX3_doMove_77 : decode cX3_doMove 77 = .ok (.getfield 10, 3) := by decide +kernel
theorem dX3_doMove_80 : decode cX3_doMove 80 = .ok (.invokevirtual 91, 3) := by decide +kernel
theorem dX3_doMove_83 : decode cX3_doMove 83 = .ok (.ireturn, 1) := by decide +kernel
theorem dX3_doMove_84 : decode cX3_doMove 84 = .ok (.aload_n 0, 1) := by decide +kernel
theorem dX3_doMove_85 : decode cX3_doMove 85 = .ok (.getfield 10, 3) := by decide +kernel
theorem dX3_doMove_88 : decode cX3_doMove 88 = .ok (.iload_n 2, 1) := by decide +kernel
theorem dX3_doMove_89 : decode cX3_doMove 89 = .ok (.invokevirtual 82, 3) := by decide +kernel
theorem dX3_doMove_92 : decode cX3_doMove 92 = .ok (.ifCond .eq 14, 3) := by decide +kernel
theorem dX3_doMove_95 : decode cX3_doMove 95 = .ok (.aload_n 0, 1) := by decide +kernel
theorem dX3_doMove_96 : decode cX3_doMove 96 = .ok (.getfield 10, 3) := by decide +kernel
theorem dX3_doMove_99 : decode cX3_doMove 99 = .ok (.iload_n 2, 1) := by decide +kernel
theorem dX3_doMove_100 : decode cX3_doMove 100 = .ok (.invokevirtual 85, 3) := by decide +kernel
theorem dX3_doMove_103 : decode cX3_doMove 103 = .ok (.goto 5, 3) := by decide +kernel
theorem dX3_doMove_106 : decode cX3_doMove 106 = .ok (.ldc 61, 2) := by decide +kernel
theorem dX3_doMove_108 : decode cX3_doMove 108 = .ok (.ireturn, 1) := by decide +kernel
