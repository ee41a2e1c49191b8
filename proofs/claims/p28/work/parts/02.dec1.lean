theorem dX0_init_0 : decode cX0_init 0 = .ok (.aload_n 0, 1) := by decide +kernel
theorem dX0_init_1 : decode cX0_init 1 = .ok (.invokespecial 3, 3) := by decide +kernel
theorem dX0_init_4 : decode cX0_init 4 = .ok (.aload_n 0, 1) := by decide +kernel
theorem dX0_init_5 : decode cX0_init 5 = .ok (.bipush 6, 2) := by decide +kernel
theorem dX0_init_7 : decode cX0_init 7 = .ok (.anewarray 9, 3) := by decide +kernel
theorem dX0_init_10 : decode cX0_init 10 = .ok (.putfield 11, 3) := by decide +kernel
theorem dX0_init_13 : decode cX0_init 13 = .ok (.aload_n 0, 1) := by decide +kernel
theorem dX0_init_14 : decode cX0_init 14 = .ok (.iconst 0, 1) := by decide +kernel
theorem dX0_init_15 : decode cX0_init 15 = .ok (.putfield 17, 3) := by decide +kernel
theorem dX0_init_18 : decode cX0_init 18 = .ok (.aload_n 0, 1) := by decide +kernel
theorem dX0_init_19 : decode cX0_init 19 = .ok (.iconst 0, 1) := by decide +kernel
theorem dX0_init_20 : decode cX0_init 20 = .ok (.putfield 21, 3) := by decide +kernel
theorem dX0_init_23 : decode cX0_init 23 = .ok (.return_, 1) := by decide +kernel
set_option maxRecDepth 20000 in
theorem ggX0_keep_J9_floorMod_7cf53 : GoodIn wsX0_keep wsJ9_floorMod_7cf53 := goodIn_r _ [14] (by decide +kernel) (by decide +kernel)
set_option maxRecDepth 20000 in
theorem gX0_keep_J9_floorMod_7cf53 : GoodIn wsX0_keep (va_wsS RX0 24 yJ9_floorMod_7cf53 wsJ9_floorMod_7cf53) := goodIn_app (goodIn_of _ (by decide +kernel)) ggX0_keep_J9_floorMod_7cf53
set_option maxRecDepth 20000 in
theorem ggX0_keep_X2_init : GoodIn wsX0_keep wsX2_init := goodIn_r _ [16, 17, 18, 19, 20, 21, 22, 23, 24, 25, 26, 27, 28, 29, 30, 31, 32, 33, 34, 46, 47, 48, 49, 50, 51, 52, 53, 54, 55, 56, 57, 58] (by decide +kernel) (by decide +kernel)
set_option maxRecDepth 20000 in
theorem gX0_keep_X2_init_n30 : GoodIn wsX0_keep (wsX2_init) := ggX0_keep_X2_init
set_option maxRecDepth 20000 in
theorem ggX0_keep_X2_copyFrom : GoodIn wsX0_keep wsX2_copyFrom := goodIn_r _ [38, 21, 39, 40, 41, 42, 22, 23, 24, 25, 27, 28, 29, 30, 31, 32, 33, 34, 46, 47, 48, 49, 50, 51, 52, 53, 54, 55, 56, 57, 58] (by decide +kernel) (by decide +kernel)
set_option maxRecDepth 20000 in
theorem gX0_keep_X2_copyFrom : GoodIn wsX0_keep (wsV RX0 31 RX2 yX2_copyFrom wsX2_copyFrom) := goodIn_app (goodIn_of _ (by decide +kernel)) ggX0_keep_X2_copyFrom
theorem dX0_keep_0 : decode cX0_keep 0 = .ok (.aload_n 0, 1) := by decide +kernel
theorem dX0_keep_1 : decode cX0_keep 1 = .ok (.getfield 17, 3) := by decide +kernel
theorem dX0_keep_4 : decode cX0_keep 4 = .ok (.bipush 6, 2) := by decide +kernel
theorem dX0_keep_6 : decode cX0_keep 6 = .ok (.invokestatic 24, 3) := by decide +kernel
theorem dX0_keep_9 : decode cX0_keep 9 = .ok (.istore_n 2, 1) := by decide +kernel
theorem dX0_keep_10 : decode cX0_keep 10 = .ok (.aload_n 0, 1) := by decide +kernel
theorem dX0_keep_11 : decode cX0_keep 11 = .ok (.getfield 11, 3) := by decide +kernel
theorem dX0_keep_14 : decode cX0_keep 14 = .ok (.iload_n 2, 1) := by decide +kernel
theorem dX0_keep_15 : decode cX0_keep 15 = .ok (.aaload, 1) := by decide +kernel
theorem dX0_keep_16 : decode cX0_keep 16 = .ok (.astore_n 3, 1) := by decide +kernel
theorem dX0_keep_17 : decode cX0_keep 17 = .ok (.aload_n 3, 1) := by decide +kernel
theorem dX0_keep_18 : decode cX0_keep 18 = .ok (.ifnonnull 18, 3) := by decide +kernel
theorem dX0_keep_21 : decode cX0_keep 21 = .ok (.new 9, 3) := by decide +kernel
theorem dX0_keep_24 : decode cX0_keep 24 = .ok (.dup, 1) := by decide +kernel
theorem dX0_keep_25 : decode cX0_keep 25 = .ok (.invokespecial 30, 3) := by decide +kernel
theorem dX0_keep_28 : decode cX0_keep 28 = .ok (.astore_n 3, 1) := by decide +kernel
theorem dX0_keep_29 : decode cX0_keep 29 = .ok (.aload_n 0, 1) := by decide +kernel
theorem dX0_keep_30 : decode cX0_keep 30 = .ok (.getfield 11, 3) := by decide +kernel
theorem dX0_keep_33 : decode cX0_keep 33 = .ok (.iload_n 2, 1) := by decide +kernel
theorem dX0_keep_34 : decode cX0_keep 34 = .ok (.aload_n 3, 1) := by decide +kernel
theorem dX0_keep_35 : decode cX0_keep 35 = .ok (.aastore, 1) := by decide +kernel
theorem dX0_keep_36 : decode cX0_keep 36 = .ok (.aload_n 3, 1) := by decide +kernel
theorem dX0_keep_37 : decode cX0_keep 37 = .ok (.aload_n 1, 1) := by decide +kernel
theorem dX0_keep_38 : decode cX0_keep 38 = .ok (.invokevirtual 31, 3) := by decide +kernel
theorem dX0_keep_41 : decode cX0_keep 41 = .ok (.aload_n 0, 1) := by decide +kernel
theorem dX0_keep_42 : decode cX0_keep 42 = .ok (.dup, 1) := by decide +kernel
theorem dX0_keep_43 : decode cX0_keep 43 = .ok (.getfield 17, 3) := by decide +kernel
theorem dX0_keep_46 : decode cX0_keep 46 = .ok (.iconst 1, 1) := by decide +kernel
theorem dX0_keep_47 : decode cX0_keep 47 = .ok (.iadd, 1) := by decide +kernel
theorem dX0_keep_48 : decode cX0_keep 48 = .ok (.putfield 17, 3) := by decide +kernel
theorem dX0_keep_51 : decode cX0_keep 51 = .ok (.aload_n 0, 1) := by decide +kernel
theorem dX0_keep_52 : decode cX0_keep 52 = .ok (.aload_n 0, 1) := by decide +kernel
theorem dX0_keep_53 : decode cX0_keep 53 = .ok (.getfield 21, 3) := by decide +kernel
theorem dX0_keep_56 : decode cX0_keep 56 = .ok (.iconst 1, 1) := by decide +kernel
theorem dX0_keep_57 : decode cX0_keep 57 = .ok (.iadd, 1) := by decide +kernel
theorem dX0_keep_58 : decode cX0_keep 58 = .ok (.bipush 6, 2) := by decide +kernel
theorem dX0_keep_60 : decode cX0_keep 60 = .ok (.invokestatic 35, 3) := by decide +kernel
theorem dX0_keep_63 : decode cX0_keep 63 = .ok (.putfield 21, 3) := by decide +kernel
theorem dX0_keep_66 : decode cX0_keep 66 = .ok (.return_, 1) := by decide +kernel
set_option maxRecDepth 20000 in
theorem ggX0_takeBack_J9_floorMod_7cf53 : GoodIn wsX0_takeBack wsJ9_floorMod_7cf53 := goodIn_r _ [7] (by decide +kernel) (by decide +kernel)
set_option maxRecDepth 20000 in
theorem gX0_takeBack_J9_floorMod_7cf53 : GoodIn wsX0_takeBack (va_wsS RX0 24 yJ9_floorMod_7cf53 wsJ9_floorMod_7cf53) := goodIn_app (goodIn_of _ (by decide +kernel)) ggX0_takeBack_J9_floorMod_7cf53
set_option maxRecDepth 20000 in
theorem ggX0_takeBack_X2_copyFrom : GoodIn wsX0_takeBack wsX2_copyFrom := goodIn_r _ [12, 13, 14, 15, 16, 17, 18, 19, 20, 21, 22, 23, 24, 25, 26, 27, 28, 29, 33, 34, 35, 36, 37, 38, 39, 40, 41, 42, 43, 44, 45] (by decide +kernel) (by decide +kernel)
set_option maxRecDepth 20000 in
theorem gX0_takeBack_X2_copyFrom : GoodIn wsX0_takeBack (wsV RX0 31 RX2 yX2_copyFrom wsX2_copyFrom) := goodIn_app (goodIn_of _ (by decide +kernel)) ggX0_takeBack_X2_copyFrom
theorem dX0_takeBack_0 : decode cX0_takeBack 0 = .ok (.aload_n 0, 1) := by decide +kernel
theorem dX0_takeBack_1 : decode cX0_takeBack 1 = .ok (.getfield 11, 3) := by decide +kernel
theorem dX0_takeBack_4 : decode cX0_takeBack 4 = .ok (.aload_n 0, 1) := by decide +kernel
theorem dX0_takeBack_5 : decode cX0_takeBack 5 = .ok (.getfield 17, 3) := by decide +kernel
theorem dX0_takeBack_8 : decode cX0_takeBack 8 = .ok (.iconst 1, 1) := by decide +kernel
theorem dX0_takeBack_9 : decode cX0_takeBack 9 = .ok (.isub, 1) := by decide +kernel
theorem dX0_takeBack_10 : decode cX0_takeBack 10 = .ok (.bipush 6, 2) := by decide +kernel
theorem dX0_takeBack_12 : decode cX0_takeBack 12 = .ok (.invokestatic 24, 3) := by decide +kernel
theorem dX0_takeBack_15 : decode cX0_takeBack 15 = .ok (.aaload, 1) := by decide +kernel
theorem dX0_takeBack_16 : decode cX0_takeBack 16 = .ok (.astore_n 2, 1) := by decide +kernel
theorem dX0_takeBack_17 : decode cX0_takeBack 17 = .ok (.aload_n 0, 1) := by decide +kernel
theorem dX0_takeBack_18 : decode cX0_takeBack 18 = .ok (.getfield 21, 3) := by decide +kernel
theorem dX0_takeBack_21 : decode cX0_takeBack 21 = .ok (.ifCond .eq 7, 3) := by decide +kernel
theorem dX0_takeBack_24 : decode cX0_takeBack 24 = .ok (.aload_n 2, 1) := by decide +kernel
theorem dX0_takeBack_25 : decode cX0_takeBack 25 = .ok (.ifnonnull 4, 3) := by decide +kernel
theorem dX0_takeBack_28 : decode cX0_takeBack 28 = .ok (.return_, 1) := by decide +kernel
theorem dX0_takeBack_29 : decode cX0_takeBack 29 = .ok (.aload_n 1, 1) := by decide +kernel
theorem dX0_takeBack_30 : decode cX0_takeBack 30 = .ok (.aload_n 2, 1) := by decide +kernel
theorem dX0_takeBack_31 : decode cX0_takeBack 31 = .ok (.invokevirtual 31, 3) := by decide +kernel
theorem dX0_takeBack_34 : decode cX0_takeBack 34 = .ok (.aload_n 0, 1) := by decide +kernel
theorem dX0_takeBack_35 : decode cX0_takeBack 35 = .ok (.dup, 1) := by decide +kernel
theorem dX0_takeBack_36 : decode cX0_takeBack 36 = .ok (.getfield 17, 3) := by decide +kernel
theorem dX0_takeBack_39 : decode cX0_takeBack 39 = .ok (.iconst 1, 1) := by decide +kernel
theorem dX0_takeBack_40 : decode cX0_takeBack 40 = .ok (.isub, 1) := by decide +kernel
theorem dX0_takeBack_41 : decode cX0_takeBack 41 = .ok (.putfield 17, 3) := by decide +kernel
theorem dX0_takeBack_44 : decode cX0_takeBack 44 = .ok (.aload_n 0, 1) := by decide +kernel
theorem dX0_takeBack_45 : decode cX0_takeBack 45 = .ok (.dup, 1) := by decide +kernel
theorem dX0_takeBack_46 : decode cX0_takeBack 46 = .ok (.getfield 21, 3) := by decide +kernel
theorem dX0_takeBack_49 : decode cX0_takeBack 49 = .ok (.iconst 1, 1) := by decide +kernel
theorem dX0_takeBack_50 : decode cX0_takeBack 50 = .ok (.isub, 1) := by decide +kernel
theorem dX0_takeBack_51 : decode cX0_takeBack 51 = .ok (.putfield 21, 3) := by decide +kernel
theorem dX0_takeBack_54 : decode cX0_takeBack 54 = .ok (.return_, 1) := by decide +kernel
theorem dX1_init_0 : decode cX1_init 0 = .ok (.aload_n 0, 1) := by decide +kernel
theorem dX1_init_1 : decode cX1_init 1 = .ok (.invokespecial 3, 3) := by decide +kernel
theorem dX1_init_4 : decode cX1_init 4 = .ok (.aload_n 0, 1) := by decide +kernel
theorem dX1_init_5 : decode cX1_init 5 = .ok (.bipush 60, 2) := by decide +kernel
theorem dX1_init_7 : decode cX1_init 7 = .ok (.newarray .char, 2) := by decide +kernel
theorem dX1_init_9 : decode cX1_init 9 = .ok (.putfield 9, 3) := by decide +kernel
theorem dX1_init_12 : decode cX1_init 12 = .ok (.aload_n 0, 1) := by decide +kernel
theorem dX1_init_13 : decode cX1_init 13 = .ok (.iconst 0, 1) := by decide +kernel
theorem dX1_init_14 : decode cX1_init 14 = .ok (.putfield 15, 3) := by decide +kernel
theorem dX1_init_17 : decode cX1_init 17 = .ok (.return_, 1) := by decide +kernel
theorem dX1_isDigit_0 : decode cX1_isDigit 0 = .ok (.iload_n 0, 1) := by decide +kernel
theorem dX1_isDigit_1 : decode cX1_isDigit 1 = .ok (.bipush 48, 2) := by decide +kernel
theorem dX1_isDigit_3 : decode cX1_isDigit 3 = .ok (.if_icmp .lt 13, 3) := by decide +kernel
theorem dX1_isDigit_6 : decode cX1_isDigit 6 = .ok (.iload_n 0, 1) := by decide +kernel
theorem dX1_isDigit_7 : decode cX1_isDigit 7 = .ok (.bipush 57, 2) := by decide +kernel
theorem dX1_isDigit_9 : decode cX1_isDigit 9 = .ok (.if_icmp .gt 7, 3) := by decide +kernel
theorem dX1_isDigit_12 : decode cX1_isDigit 12 = .ok (.iconst 1, 1) := by decide +kernel
theorem dX1_isDigit_13 : decode cX1_isDigit 13 = .ok (.goto 4, 3) := by decide +kernel
theorem dX1_isDigit_16 : decode cX1_isDigit 16 = .ok (.iconst 0, 1) := by decide +kernel
theorem dX1_isDigit_17 : decode cX1_isDigit 17 = .ok (.ireturn, 1) := by decide +kernel
theorem dX1_signAt_0 : decode cX1_signAt 0 = .ok (.iload_n 1, 1) := by decide +kernel
theorem dX1_signAt_1 : decode cX1_signAt 1 = .ok (.ifCond .lt 18, 3) := by decide +kernel
theorem dX1_signAt_4 : decode cX1_signAt 4 = .ok (.iload_n 1, 1) := by decide +kernel
theorem dX1_signAt_5 : decode cX1_signAt 5 = .ok (.bipush 60, 2) := by decide +kernel
theorem dX1_signAt_7 : decode cX1_signAt 7 = .ok (.if_icmp .ge 12, 3) := by decide +kernel
theorem dX1_signAt_10 : decode cX1_signAt 10 = .ok (.aload_n 0, 1) := by decide +kernel
theorem dX1_signAt_11 : decode cX1_signAt 11 = .ok (.getfield 9, 3) := by decide +kernel
theorem dX1_signAt_14 : decode cX1_signAt 14 = .ok (.iload_n 1, 1) := by decide +kernel
theorem dX1_signAt_15 : decode cX1_signAt 15 = .ok (.caload, 1) := by decide +kernel
theorem dX1_signAt_16 : decode cX1_signAt 16 = .ok (.goto 5, 3) := by decide +kernel
theorem dX1_signAt_19 : decode cX1_signAt 19 = .ok (.bipush 44, 2) := by decide +kernel
theorem dX1_signAt_21 : decode cX1_signAt 21 = .ok (.ireturn, 1) := by decide +kernel
set_option maxRecDepth 20000 in
theorem ggX1_faultIndex_X1_signAt : GoodIn wsX1_faultIndex wsX1_signAt := goodIn_r _ [7, 8, 15, 16] (by decide +kernel) (by decide +kernel)
set_option maxRecDepth 20000 in
theorem gX1_faultIndex_X1_signAt : GoodIn wsX1_faultIndex (wsV RX1 25 RX1 yX1_signAt wsX1_signAt) := goodIn_app (goodIn_of _ (by decide +kernel)) ggX1_faultIndex_X1_signAt
set_option maxRecDepth 20000 in
theorem ggX1_faultIndex_X1_dueBehind : GoodIn wsX1_faultIndex wsX1_dueBehind := goodIn_r _ [11, 12, 13, 6, 14] (by decide +kernel) (by decide +kernel)
set_option maxRecDepth 20000 in
theorem gX1_faultIndex_X1_dueBehind : GoodIn wsX1_faultIndex (va_wsS RX1 29 yX1_dueBehind wsX1_dueBehind) := goodIn_app (goodIn_of _ (by decide +kernel)) ggX1_faultIndex_X1_dueBehind
theorem dX1_faultIndex_0 : decode cX1_faultIndex 0 = .ok (.iconst (-1), 1) := by decide +kernel
theorem dX1_faultIndex_1 : decode cX1_faultIndex 1 = .ok (.istore_n 1, 1) := by decide +kernel
theorem dX1_faultIndex_2 : decode cX1_faultIndex 2 = .ok (.iconst 0, 1) := by decide +kernel
theorem dX1_faultIndex_3 : decode cX1_faultIndex 3 = .ok (.istore_n 2, 1) := by decide +kernel
theorem dX1_faultIndex_4 : decode cX1_faultIndex 4 = .ok (.iload_n 2, 1) := by decide +kernel
theorem dX1_faultIndex_5 : decode cX1_faultIndex 5 = .ok (.aload_n 0, 1) := by decide +kernel
theorem dX1_faultIndex_6 : decode cX1_faultIndex 6 = .ok (.getfield 15, 3) := by decide +kernel
theorem dX1_faultIndex_9 : decode cX1_faultIndex 9 = .ok (.if_icmp .ge 27, 3) := by decide +kernel
theorem dX1_faultIndex_12 : decode cX1_faultIndex 12 = .ok (.iload_n 1, 1) := by decide +kernel
theorem dX1_faultIndex_13 : decode cX1_faultIndex 13 = .ok (.aload_n 0, 1) := by decide +kernel
theorem dX1_faultIndex_14 : decode cX1_faultIndex 14 = .ok (.iload_n 2, 1) := by decide +kernel
theorem dX1_faultIndex_15 : decode cX1_faultIndex 15 = .ok (.invokevirtual 25, 3) := by decide +kernel
theorem dX1_faultIndex_18 : decode cX1_faultIndex 18 = .ok (.invokestatic 29, 3) := by decide +kernel
theorem dX1_faultIndex_21 : decode cX1_faultIndex 21 = .ok (.istore_n 1, 1) := by decide +kernel
theorem dX1_faultIndex_22 : decode cX1_faultIndex 22 = .ok (.iload_n 1, 1) := by decide +kernel
theorem dX1_faultIndex_23 : decode cX1_faultIndex 23 = .ok (.bipush (-2), 2) := by decide +kernel
theorem dX1_faultIndex_25 : decode cX1_faultIndex 25 = .ok (.if_icmp .ne 5, 3) := by decide +kernel
theorem dX1_faultIndex_28 : decode cX1_faultIndex 28 = .ok (.iload_n 2, 1) := by decide +kernel
theorem dX1_faultIndex_29 : decode cX1_faultIndex 29 = .ok (.ireturn, 1) := by decide +kernel
theorem dX1_faultIndex_30 : decode cX1_faultIndex 30 = .ok (.iinc 2 1, 3) := by decide +kernel
theorem dX1_faultIndex_33 : decode cX1_faultIndex 33 = .ok (.goto (-29), 3) := by decide +kernel
theorem dX1_faultIndex_36 : decode cX1_faultIndex 36 = .ok (.iload_n 1, 1) := by decide +kernel
theorem dX1_faultIndex_37 : decode cX1_faultIndex 37 = .ok (.iconst (-1), 1) := by decide +kernel
theorem dX1_faultIndex_38 : decode cX1_faultIndex 38 = .ok (.if_icmp .ne 10, 3) := by decide +kernel
theorem dX1_faultIndex_41 : decode cX1_faultIndex 41 = .ok (.aload_n 0, 1) := by decide +kernel
theorem dX1_faultIndex_42 : decode cX1_faultIndex 42 = .ok (.getfield 15, 3) := by decide +kernel
theorem dX1_faultIndex_45 : decode cX1_faultIndex 45 = .ok (.goto 5, 3) := by decide +kernel
theorem dX1_faultIndex_48 : decode cX1_faultIndex 48 = .ok (.ldc 33, 2) := by decide +kernel
theorem dX1_faultIndex_50 : decode cX1_faultIndex 50 = .ok (.ireturn, 1) := by decide +kernel
set_option maxRecDepth 20000 in
theorem ggX1_dueBehind_X1_isDigit : GoodIn wsX1_dueBehind wsX1_isDigit := goodIn_r _ [4] (by decide +kernel) (by decide +kernel)
set_option maxRecDepth 20000 in
theorem gX1_dueBehind_X1_isDigit : GoodIn wsX1_dueBehind (va_wsS RX1 34 yX1_isDigit wsX1_isDigit) := goodIn_app (goodIn_of _ (by decide +kernel)) ggX1_dueBehind_X1_isDigit
theorem dX1_dueBehind_0 : decode cX1_dueBehind 0 = .ok (.iload_n 0, 1) := by decide +kernel
theorem dX1_dueBehind_1 : decode cX1_dueBehind 1 = .ok (.iconst (-1), 1) := by decide +kernel
theorem dX1_dueBehind_2 : decode cX1_dueBehind 2 = .ok (.if_icmp .eq 31, 3) := by decide +kernel
theorem dX1_dueBehind_5 : decode cX1_dueBehind 5 = .ok (.iload_n 1, 1) := by decide +kernel
theorem dX1_dueBehind_6 : decode cX1_dueBehind 6 = .ok (.bipush 44, 2) := by decide +kernel
theorem dX1_dueBehind_8 : decode cX1_dueBehind 8 = .ok (.if_icmp .ne 5, 3) := by decide +kernel
theorem dX1_dueBehind_11 : decode cX1_dueBehind 11 = .ok (.iconst (-1), 1) := by decide +kernel
theorem dX1_dueBehind_12 : decode cX1_dueBehind 12 = .ok (.ireturn, 1) := by decide +kernel
theorem dX1_dueBehind_13 : decode cX1_dueBehind 13 = .ok (.iload_n 0, 1) := by decide +kernel
theorem dX1_dueBehind_14 : decode cX1_dueBehind 14 = .ok (.ifCond .le 16, 3) := by decide +kernel
theorem dX1_dueBehind_17 : decode cX1_dueBehind 17 = .ok (.iload_n 1, 1) := by decide +kernel
theorem dX1_dueBehind_18 : decode cX1_dueBehind 18 = .ok (.invokestatic 34, 3) := by decide +kernel
theorem dX1_dueBehind_21 : decode cX1_dueBehind 21 = .ok (.ifCond .eq 9, 3) := by decide +kernel
theorem dX1_dueBehind_24 : decode cX1_dueBehind 24 = .ok (.iload_n 0, 1) := by decide +kernel
theorem dX1_dueBehind_25 : decode cX1_dueBehind 25 = .ok (.iconst 1, 1) := by decide +kernel
theorem dX1_dueBehind_26 : decode cX1_dueBehind 26 = .ok (.isub, 1) := by decide +kernel
theorem dX1_dueBehind_27 : decode cX1_dueBehind 27 = .ok (.goto 5, 3) := by decide +kernel
theorem dX1_dueBehind_30 : decode cX1_dueBehind 30 = .ok (.bipush (-2), 2) := by decide +kernel
theorem dX1_dueBehind_32 : decode cX1_dueBehind 32 = .ok (.ireturn, 1) := by decide +kernel
theorem dX1_dueBehind_33 : decode cX1_dueBehind 33 = .ok (.iload_n 1, 1) := by decide +kernel
theorem dX1_dueBehind_34 : decode cX1_dueBehind 34 = .ok (.bipush 43, 2) := by decide +kernel
theorem dX1_dueBehind_36 : decode cX1_dueBehind 36 = .ok (.if_icmp .eq 27, 3) := by decide +kernel
theorem dX1_dueBehind_39 : decode cX1_dueBehind 39 = .ok (.iload_n 1, 1) := by decide +kernel
theorem dX1_dueBehind_40 : decode cX1_dueBehind 40 = .ok (.bipush 45, 2) := by decide +kernel
theorem dX1_dueBehind_42 : decode cX1_dueBehind 42 = .ok (.if_icmp .eq 21, 3) := by decide +kernel
theorem dX1_dueBehind_45 : decode cX1_dueBehind 45 = .ok (.iload_n 1, 1) := by decide +kernel
theorem dX1_dueBehind_46 : decode cX1_dueBehind 46 = .ok (.bipush 42, 2) := by decide +kernel
theorem dX1_dueBehind_48 : decode cX1_dueBehind 48 = .ok (.if_icmp .eq 15, 3) := by decide +kernel
theorem dX1_dueBehind_51 : decode cX1_dueBehind 51 = .ok (.iload_n 1, 1) := by decide +kernel
theorem dX1_dueBehind_52 : decode cX1_dueBehind 52 = .ok (.bipush 33, 2) := by decide +kernel
theorem dX1_dueBehind_54 : decode cX1_dueBehind 54 = .ok (.if_icmp .eq 9, 3) := by decide +kernel
theorem dX1_dueBehind_57 : decode cX1_dueBehind 57 = .ok (.iload_n 1, 1) := by decide +kernel
theorem dX1_dueBehind_58 : decode cX1_dueBehind 58 = .ok (.bipush 48, 2) := by decide +kernel
theorem dX1_dueBehind_60 : decode cX1_dueBehind 60 = .ok (.if_icmp .ne 5, 3) := by decide +kernel
theorem dX1_dueBehind_63 : decode cX1_dueBehind 63 = .ok (.iconst 0, 1) := by decide +kernel
theorem dX1_dueBehind_64 : decode cX1_dueBehind 64 = .ok (.ireturn, 1) := by decide +kernel
theorem dX1_dueBehind_65 : decode cX1_dueBehind 65 = .ok (.iload_n 1, 1) := by decide +kernel
theorem dX1_dueBehind_66 : decode cX1_dueBehind 66 = .ok (.invokestatic 34, 3) := by decide +kernel
theorem dX1_dueBehind_69 : decode cX1_dueBehind 69 = .ok (.ifCond .eq 7, 3) := by decide +kernel
theorem dX1_dueBehind_72 : decode cX1_dueBehind 72 = .ok (.iconst 3, 1) := by decide +kernel
theorem dX1_dueBehind_73 : decode cX1_dueBehind 73 = .ok (.goto 5, 3) := by decide +kernel
theorem dX1_dueBehind_76 : decode cX1_dueBehind 76 = .ok (.bipush (-2), 2) := by decide +kernel
theorem dX1_dueBehind_78 : decode cX1_dueBehind 78 = .ok (.ireturn, 1) := by decide +kernel
theorem dX2_init_0 : decode cX2_init 0 = .ok (.aload_n 0, 1) := by decide +kernel
theorem dX2_init_1 : decode cX2_init 1 = .ok (.invokespecial 3, 3) := by decide +kernel
theorem dX2_init_4 : decode cX2_init 4 = .ok (.aload_n 0, 1) := by decide +kernel
theorem dX2_init_5 : decode cX2_init 5 = .ok (.iconst 4, 1) := by decide +kernel
theorem dX2_init_6 : decode cX2_init 6 = .ok (.newarray .int, 2) := by decide +kernel
theorem dX2_init_8 : decode cX2_init 8 = .ok (.dup, 1) := by decide +kernel
theorem dX2_init_9 : decode cX2_init 9 = .ok (.iconst 0, 1) := by decide +kernel
theorem dX2_init_10 : decode cX2_init 10 = .ok (.iconst 1, 1) := by decide +kernel
theorem dX2_init_11 : decode cX2_init 11 = .ok (.iastore, 1) := by decide +kernel
theorem dX2_init_12 : decode cX2_init 12 = .ok (.dup, 1) := by decide +kernel
theorem dX2_init_13 : decode cX2_init 13 = .ok (.iconst 1, 1) := by decide +kernel
theorem dX2_init_14 : decode cX2_init 14 = .ok (.iconst 1, 1) := by decide +kernel
theorem dX2_init_15 : decode cX2_init 15 = .ok (.iastore, 1) := by decide +kernel
theorem dX2_init_16 : decode cX2_init 16 = .ok (.dup, 1) := by decide +kernel
theorem dX2_init_17 : decode cX2_init 17 = .ok (.iconst 2, 1) := by decide +kernel
theorem dX2_init_18 : decode cX2_init 18 = .ok (.bipush 50, 2) := by decide +kernel
theorem dX2_init_20 : decode cX2_init 20 = .ok (.iastore, 1) := by decide +kernel
theorem dX2_init_21 : decode cX2_init 21 = .ok (.dup, 1) := by decide +kernel
theorem dX2_init_22 : decode cX2_init 22 = .ok (.iconst 3, 1) := by decide +kernel
theorem dX2_init_23 : decode cX2_init 23 = .ok (.iconst 0, 1) := by decide +kernel
theorem dX2_init_24 : decode cX2_init 24 = .ok (.iastore, 1) := by decide +kernel
theorem dX2_init_25 : decode cX2_init 25 = .ok (.putfield 9, 3) := by decide +kernel
theorem dX2_init_28 : decode cX2_init 28 = .ok (.aload_n 0, 1) := by decide +kernel
theorem dX2_init_29 : decode cX2_init 29 = .ok (.iconst 5, 1) := by decide +kernel
theorem dX2_init_30 : decode cX2_init 30 = .ok (.newarray .int, 2) := by decide +kernel
theorem dX2_init_32 : decode cX2_init 32 = .ok (.dup, 1) := by decide +kernel
theorem dX2_init_33 : decode cX2_init 33 = .ok (.iconst 0, 1) := by decide +kernel
theorem dX2_init_34 : decode cX2_init 34 = .ok (.iconst 5, 1) := by decide +kernel
theorem dX2_init_35 : decode cX2_init 35 = .ok (.iastore, 1) := by decide +kernel
theorem dX2_init_36 : decode cX2_init 36 = .ok (.dup, 1) := by decide +kernel
theorem dX2_init_37 : decode cX2_init 37 = .ok (.iconst 1, 1) := by decide +kernel
theorem dX2_init_38 : decode cX2_init 38 = .ok (.iconst 4, 1) := by decide +kernel
theorem dX2_init_39 : decode cX2_init 39 = .ok (.iastore, 1) := by decide +kernel
theorem dX2_init_40 : decode cX2_init 40 = .ok (.dup, 1) := by decide +kernel
theorem dX2_init_41 : decode cX2_init 41 = .ok (.iconst 2, 1) := by decide +kernel
theorem dX2_init_42 : decode cX2_init 42 = .ok (.iconst 3, 1) := by decide +kernel
theorem dX2_init_43 : decode cX2_init 43 = .ok (.iastore, 1) := by decide +kernel
theorem dX2_init_44 : decode cX2_init 44 = .ok (.dup, 1) := by decide +kernel
theorem dX2_init_45 : decode cX2_init 45 = .ok (.iconst 3, 1) := by decide +kernel
theorem dX2_init_46 : decode cX2_init 46 = .ok (.iconst 2, 1) := by decide +kernel
theorem dX2_init_47 : decode cX2_init 47 = .ok (.iastore, 1) := by decide +kernel
theorem dX2_init_48 : decode cX2_init 48 = .ok (.dup, 1) := by decide +kernel
theorem dX2_init_49 : decode cX2_init 49 = .ok (.iconst 4, 1) := by decide +kernel
theorem dX2_init_50 : decode cX2_init 50 = .ok (.iconst 1, 1) := by decide +kernel
theorem dX2_init_51 : decode cX2_init 51 = .ok (.iastore, 1) := by decide +kernel
theorem dX2_init_52 : decode cX2_init 52 = .ok (.putfield 15, 3) := by decide +kernel
theorem dX2_init_55 : decode cX2_init 55 = .ok (.aload_n 0, 1) := by decide +kernel
theorem dX2_init_56 : decode cX2_init 56 = .ok (.iconst 5, 1) := by decide +kernel
theorem dX2_init_57 : decode cX2_init 57 = .ok (.newarray .int, 2) := by decide +kernel
theorem dX2_init_59 : decode cX2_init 59 = .ok (.dup, 1) := by decide +kernel
theorem dX2_init_60 : decode cX2_init 60 = .ok (.iconst 0, 1) := by decide +kernel
theorem dX2_init_61 : decode cX2_init 61 = .ok (.bipush 20, 2) := by decide +kernel
theorem dX2_init_63 : decode cX2_init 63 = .ok (.iastore, 1) := by decide +kernel
theorem dX2_init_64 : decode cX2_init 64 = .ok (.dup, 1) := by decide +kernel
theorem dX2_init_65 : decode cX2_init 65 = .ok (.iconst 1, 1) := by decide +kernel
theorem dX2_init_66 : decode cX2_init 66 = .ok (.bipush 20, 2) := by decide +kernel
theorem dX2_init_68 : decode cX2_init 68 = .ok (.iastore, 1) := by decide +kernel
theorem dX2_init_69 : decode cX2_init 69 = .ok (.dup, 1) := by decide +kernel
theorem dX2_init_70 : decode cX2_init 70 = .ok (.iconst 2, 1) := by decide +kernel
theorem dX2_init_71 : decode cX2_init 71 = .ok (.bipush 20, 2) := by decide +kernel
theorem dX2_init_73 : decode cX2_init 73 = .ok (.iastore, 1) := by decide +kernel
theorem dX2_init_74 : decode cX2_init 74 = .ok (.dup, 1) := by decide +kernel
theorem dX2_init_75 : decode cX2_init 75 = .ok (.iconst 3, 1) := by decide +kernel
theorem dX2_init_76 : decode cX2_init 76 = .ok (.bipush 20, 2) := by decide +kernel
theorem dX2_init_78 : decode cX2_init 78 = .ok (.iastore, 1) := by decide +kernel
theorem dX2_init_79 : decode cX2_init 79 = .ok (.dup, 1) := by decide +kernel
theorem dX2_init_80 : decode cX2_init 80 = .ok (.iconst 4, 1) := by decide +kernel
theorem dX2_init_81 : decode cX2_init 81 = .ok (.bipush 20, 2) := by decide +kernel
theorem dX2_init_83 : decode cX2_init 83 = .ok (.iastore, 1) := by decide +kernel
theorem dX2_init_84 : decode cX2_init 84 = .ok (.putfield 18, 3) := by decide +kernel
theorem dX2_init_87 : decode cX2_init 87 = .ok (.aload_n 0, 1) := by decide +kernel
theorem dX2_init_88 : decode cX2_init 88 = .ok (.iconst 5, 1) := by decide +kernel
theorem dX2_init_89 : decode cX2_init 89 = .ok (.newarray .int, 2) := by decide +kernel
theorem dX2_init_91 : decode cX2_init 91 = .ok (.dup, 1) := by decide +kernel
theorem dX2_init_92 : decode cX2_init 92 = .ok (.iconst 0, 1) := by decide +kernel
theorem dX2_init_93 : decode cX2_init 93 = .ok (.bipush 10, 2) := by decide +kernel
theorem dX2_init_95 : decode cX2_init 95 = .ok (.iastore, 1) := by decide +kernel
theorem dX2_init_96 : decode cX2_init 96 = .ok (.dup, 1) := by decide +kernel
theorem dX2_init_97 : decode cX2_init 97 = .ok (.iconst 1, 1) := by decide +kernel
theorem dX2_init_98 : decode cX2_init 98 = .ok (.bipush 10, 2) := by decide +kernel
theorem dX2_init_100 : decode cX2_init 100 = .ok (.iastore, 1) := by decide +kernel
theorem dX2_init_101 : decode cX2_init 101 = .ok (.dup, 1) := by decide +kernel
theorem dX2_init_102 : decode cX2_init 102 = .ok (.iconst 2, 1) := by decide +kernel
theorem dX2_init_103 : decode cX2_init 103 = .ok (.bipush 10, 2) := by decide +kernel
theorem dX2_init_105 : decode cX2_init 105 = .ok (.iastore, 1) := by decide +kernel
theorem dX2_init_106 : decode cX2_init 106 = .ok (.dup, 1) := by decide +kernel
theorem dX2_init_107 : decode cX2_init 107 = .ok (.iconst 3, 1) := by decide +kernel
theorem dX2_init_108 : decode cX2_init 108 = .ok (.bipush 10, 2) := by decide +kernel
theorem dX2_init_110 : decode cX2_init 110 = .ok (.iastore, 1) := by decide +kernel
theorem dX2_init_111 : decode cX2_init 111 = .ok (.dup, 1) := by decide +kernel
theorem dX2_init_112 : decode cX2_init 112 = .ok (.iconst 4, 1) := by decide +kernel
theorem dX2_init_113 : decode cX2_init 113 = .ok (.bipush 10, 2) := by decide +kernel
theorem dX2_init_115 : decode cX2_init 115 = .ok (.iastore, 1) := by decide +kernel
theorem dX2_init_116 : decode cX2_init 116 = .ok (.putfield 21, 3) := by decide +kernel
theorem dX2_init_119 : decode cX2_init 119 = .ok (.aload_n 0, 1) := by decide +kernel
theorem dX2_init_120 : decode cX2_init 120 = .ok (.iconst 5, 1) := by decide +kernel
theorem dX2_init_121 : decode cX2_init 121 = .ok (.newarray .int, 2) := by decide +kernel
theorem dX2_init_123 : decode cX2_init 123 = .ok (.dup, 1) := by decide +kernel
theorem dX2_init_124 : decode cX2_init 124 = .ok (.iconst 0, 1) := by decide +kernel
theorem dX2_init_125 : decode cX2_init 125 = .ok (.iconst 0, 1) := by decide +kernel
theorem dX2_init_126 : decode cX2_init 126 = .ok (.iastore, 1) := by decide +kernel
theorem dX2_init_127 : decode cX2_init 127 = .ok (.dup, 1) := by decide +kernel
theorem dX2_init_128 : decode cX2_init 128 = .ok (.iconst 1, 1) := by decide +kernel
theorem dX2_init_129 : decode cX2_init 129 = .ok (.iconst 1, 1) := by decide +kernel
theorem dX2_init_130 : decode cX2_init 130 = .ok (.iastore, 1) := by decide +kernel
theorem dX2_init_131 : decode cX2_init 131 = .ok (.dup, 1) := by decide +kernel
theorem dX2_init_132 : decode cX2_init 132 = .ok (.iconst 2, 1) := by decide +kernel
theorem dX2_init_133 : decode cX2_init 133 = .ok (.iconst 2, 1) := by decide +kernel
theorem dX2_init_134 : decode cX2_init 134 = .ok (.iastore, 1) := by decide +kernel
theorem dX2_init_135 : decode cX2_init 135 = .ok (.dup, 1) := by decide +kernel
theorem dX2_init_136 : decode cX2_init 136 = .ok (.iconst 3, 1) := by decide +kernel
theorem dX2_init_137 : decode cX2_init 137 = .ok (.iconst 3, 1) := by decide +kernel
theorem dX2_init_138 : decode cX2_init 138 = .ok (.iastore, 1) := by decide +kernel
theorem dX2_init_139 : decode cX2_init 139 = .ok (.dup, 1) := by decide +kernel
theorem dX2_init_140 : decode cX2_init 140 = .ok (.iconst 4, 1) := by decide +kernel
theorem dX2_init_141 : decode cX2_init 141 = .ok (.iconst 4, 1) := by decide +kernel
theorem dX2_init_142 : decode cX2_init 142 = .ok (.iastore, 1) := by decide +kernel
theorem dX2_init_143 : decode cX2_init 143 = .ok (.putfield 24, 3) := by decide +kernel
theorem dX2_init_146 : decode cX2_init 146 = .ok (.aload_n 0, 1) := by decide +kernel
theorem dX2_init_147 : decode cX2_init 147 = .ok (.iconst 5, 1) := by decide +kernel
theorem dX2_init_148 : decode cX2_init 148 = .ok (.newarray .int, 2) := by decide +kernel
theorem dX2_init_150 : decode cX2_init 150 = .ok (.dup, 1) := by decide +kernel
theorem dX2_init_151 : decode cX2_init 151 = .ok (.iconst 0, 1) := by decide +kernel
theorem dX2_init_152 : decode cX2_init 152 = .ok (.ldc 27, 2) := by decide +kernel
theorem dX2_init_154 : decode cX2_init 154 = .ok (.iastore, 1) := by decide +kernel
theorem dX2_init_155 : decode cX2_init 155 = .ok (.dup, 1) := by decide +kernel
theorem dX2_init_156 : decode cX2_init 156 = .ok (.iconst 1, 1) := by decide +kernel
theorem dX2_init_157 : decode cX2_init 157 = .ok (.ldc 27, 2) := by decide +kernel
theorem dX2_init_159 : decode cX2_init 159 = .ok (.iastore, 1) := by decide +kernel
theorem dX2_init_160 : decode cX2_init 160 = .ok (.dup, 1) := by decide +kernel
theorem dX2_init_161 : decode cX2_init 161 = .ok (.iconst 2, 1) := by decide +kernel
theorem dX2_init_162 : decode cX2_init 162 = .ok (.ldc 27, 2) := by decide +kernel
theorem dX2_init_164 : decode cX2_init 164 = .ok (.iastore, 1) := by decide +kernel
theorem dX2_init_165 : decode cX2_init 165 = .ok (.dup, 1) := by decide +kernel
theorem dX2_init_166 : decode cX2_init 166 = .ok (.iconst 3, 1) := by decide +kernel
theorem dX2_init_167 : decode cX2_init 167 = .ok (.ldc 27, 2) := by decide +kernel
theorem dX2_init_169 : decode cX2_init 169 = .ok (.iastore, 1) := by decide +kernel
theorem dX2_init_170 : decode cX2_init 170 = .ok (.dup, 1) := by decide +kernel
theorem dX2_init_171 : decode cX2_init 171 = .ok (.iconst 4, 1) := by decide +kernel
theorem dX2_init_172 : decode cX2_init 172 = .ok (.ldc 27, 2) := by decide +kernel
theorem dX2_init_174 : decode cX2_init 174 = .ok (.iastore, 1) := by decide +kernel
theorem dX2_init_175 : decode cX2_init 175 = .ok (.putfield 28, 3) := by decide +kernel
theorem dX2_init_178 : decode cX2_init 178 = .ok (.aload_n 0, 1) := by decide +kernel
theorem dX2_init_179 : decode cX2_init 179 = .ok (.iconst 5, 1) := by decide +kernel
theorem dX2_init_180 : decode cX2_init 180 = .ok (.newarray .int, 2) := by decide +kernel
theorem dX2_init_182 : decode cX2_init 182 = .ok (.dup, 1) := by decide +kernel
theorem dX2_init_183 : decode cX2_init 183 = .ok (.iconst 0, 1) := by decide +kernel
theorem dX2_init_184 : decode cX2_init 184 = .ok (.ldc 27, 2) := by decide +kernel
theorem dX2_init_186 : decode cX2_init 186 = .ok (.iastore, 1) := by decide +kernel
theorem dX2_init_187 : decode cX2_init 187 = .ok (.dup, 1) := by decide +kernel
theorem dX2_init_188 : decode cX2_init 188 = .ok (.iconst 1, 1) := by decide +kernel
theorem dX2_init_189 : decode cX2_init 189 = .ok (.ldc 27, 2) := by decide +kernel
theorem dX2_init_191 : decode cX2_init 191 = .ok (.iastore, 1) := by decide +kernel
theorem dX2_init_192 : decode cX2_init 192 = .ok (.dup, 1) := by decide +kernel
theorem dX2_init_193 : decode cX2_init 193 = .ok (.iconst 2, 1) := by decide +kernel
theorem dX2_init_194 : decode cX2_init 194 = .ok (.ldc 27, 2) := by decide +kernel
theorem dX2_init_196 : decode cX2_init 196 = .ok (.iastore, 1) := by decide +kernel
theorem dX2_init_197 : decode cX2_init 197 = .ok (.dup, 1) := by decide +kernel
theorem dX2_init_198 : decode cX2_init 198 = .ok (.iconst 3, 1) := by decide +kernel
theorem dX2_init_199 : decode cX2_init 199 = .ok (.ldc 27, 2) := by decide +kernel
theorem dX2_init_201 : decode cX2_init 201 = .ok (.iastore, 1) := by decide +kernel
theorem dX2_init_202 : decode cX2_init 202 = .ok (.dup, 1) := by decide +kernel
theorem dX2_init_203 : decode cX2_init 203 = .ok (.iconst 4, 1) := by decide +kernel
theorem dX2_init_204 : decode cX2_init 204 = .ok (.ldc 27, 2) := by decide +kernel
theorem dX2_init_206 : decode cX2_init 206 = .ok (.iastore, 1) := by decide +kernel
theorem dX2_init_207 : decode cX2_init 207 = .ok (.putfield 31, 3) := by decide +kernel
theorem dX2_init_210 : decode cX2_init 210 = .ok (.aload_n 0, 1) := by decide +kernel
theorem dX2_init_211 : decode cX2_init 211 = .ok (.iconst 5, 1) := by decide +kernel
theorem dX2_init_212 : decode cX2_init 212 = .ok (.newarray .int, 2) := by decide +kernel
theorem dX2_init_214 : decode cX2_init 214 = .ok (.putfield 34, 3) := by decide +kernel
theorem dX2_init_217 : decode cX2_init 217 = .ok (.aload_n 0, 1) := by decide +kernel
theorem dX2_init_218 : decode cX2_init 218 = .ok (.iconst 5, 1) := by decide +kernel
theorem dX2_init_219 : decode cX2_init 219 = .ok (.newarray .int, 2) := by decide +kernel
theorem dX2_init_221 : decode cX2_init 221 = .ok (.putfield 37, 3) := by decide +kernel
theorem dX2_init_224 : decode cX2_init 224 = .ok (.aload_n 0, 1) := by decide +kernel
theorem dX2_init_225 : decode cX2_init 225 = .ok (.iconst 5, 1) := by decide +kernel
theorem dX2_init_226 : decode cX2_init 226 = .ok (.newarray .int, 2) := by decide +kernel
theorem dX2_init_228 : decode cX2_init 228 = .ok (.putfield 40, 3) := by decide +kernel
theorem dX2_init_231 : decode cX2_init 231 = .ok (.aload_n 0, 1) := by decide +kernel
theorem dX2_init_232 : decode cX2_init 232 = .ok (.iconst 0, 1) := by decide +kernel
theorem dX2_init_233 : decode cX2_init 233 = .ok (.putfield 43, 3) := by decide +kernel
theorem dX2_init_236 : decode cX2_init 236 = .ok (.aload_n 0, 1) := by decide +kernel
theorem dX2_init_237 : decode cX2_init 237 = .ok (.ldc 27, 2) := by decide +kernel
theorem dX2_init_239 : decode cX2_init 239 = .ok (.putfield 47, 3) := by decide +kernel
theorem dX2_init_242 : decode cX2_init 242 = .ok (.aload_n 0, 1) := by decide +kernel
theorem dX2_init_243 : decode cX2_init 243 = .ok (.iconst 0, 1) := by decide +kernel
theorem dX2_init_244 : decode cX2_init 244 = .ok (.putfield 51, 3) := by decide +kernel
theorem dX2_init_247 : decode cX2_init 247 = .ok (.return_, 1) := by decide +kernel
theorem dX2_copyFrom_0 : decode cX2_copyFrom 0 = .ok (.aload_n 1, 1) := by decide +kernel
theorem dX2_copyFrom_1 : decode cX2_copyFrom 1 = .ok (.getfield 9, 3) := by decide +kernel
theorem dX2_copyFrom_4 : decode cX2_copyFrom 4 = .ok (.iconst 0, 1) := by decide +kernel
theorem dX2_copyFrom_5 : decode cX2_copyFrom 5 = .ok (.aload_n 0, 1) := by decide +kernel
theorem dX2_copyFrom_6 : decode cX2_copyFrom 6 = .ok (.getfield 9, 3) := by decide +kernel
theorem dX2_copyFrom_9 : decode cX2_copyFrom 9 = .ok (.iconst 0, 1) := by decide +kernel
theorem dX2_copyFrom_10 : decode cX2_copyFrom 10 = .ok (.iconst 4, 1) := by decide +kernel
theorem dX2_copyFrom_11 : decode cX2_copyFrom 11 = .ok (.invokestatic 54, 3) := by decide +kernel
theorem dX2_copyFrom_14 : decode cX2_copyFrom 14 = .ok (.aload_n 1, 1) := by decide +kernel
theorem dX2_copyFrom_15 : decode cX2_copyFrom 15 = .ok (.getfield 15, 3) := by decide +kernel
theorem dX2_copyFrom_18 : decode cX2_copyFrom 18 = .ok (.iconst 0, 1) := by decide +kernel
theorem dX2_copyFrom_19 : decode cX2_copyFrom 19 = .ok (.aload_n 0, 1) := by decide +kernel
theorem dX2_copyFrom_20 : decode cX2_copyFrom 20 = .ok (.getfield 15, 3) := by decide +kernel
theorem dX2_copyFrom_23 : decode cX2_copyFrom 23 = .ok (.iconst 0, 1) := by decide +kernel
theorem dX2_copyFrom_24 : decode cX2_copyFrom 24 = .ok (.iconst 5, 1) := by decide +kernel
theorem dX2_copyFrom_25 : decode cX2_copyFrom 25 = .ok (.invokestatic 54, 3) := by decide +kernel
theorem dX2_copyFrom_28 : decode cX2_copyFrom 28 = .ok (.aload_n 1, 1) := by decide +kernel
theorem dX2_copyFrom_29 : decode cX2_copyFrom 29 = .ok (.getfield 18, 3) := by decide +kernel
theorem dX2_copyFrom_32 : decode cX2_copyFrom 32 = .ok (.iconst 0, 1) := by decide +kernel
theorem dX2_copyFrom_33 : decode cX2_copyFrom 33 = .ok (.aload_n 0, 1) := by decide +kernel
theorem dX2_copyFrom_34 : decode cX2_copyFrom 34 = .ok (.getfield 18, 3) := by decide +kernel
theorem dX2_copyFrom_37 : decode cX2_copyFrom 37 = .ok (.iconst 0, 1) := by decide +kernel
theorem dX2_copyFrom_38 : decode cX2_copyFrom 38 = .ok (.iconst 5, 1) := by decide +kernel
theorem dX2_copyFrom_39 : decode cX2_copyFrom 39 = .ok (.invokestatic 54, 3) := by decide +kernel
theorem dX2_copyFrom_42 : decode cX2_copyFrom 42 = .ok (.aload_n 1, 1) := by decide +kernel
theorem dX2_copyFrom_43 : decode cX2_copyFrom 43 = .ok (.getfield 21, 3) := by decide +kernel
theorem dX2_copyFrom_46 : decode cX2_copyFrom 46 = .ok (.iconst 0, 1) := by decide +kernel
theorem dX2_copyFrom_47 : decode cX2_copyFrom 47 = .ok (.aload_n 0, 1) := by decide +kernel
theorem dX2_copyFrom_48 : decode cX2_copyFrom 48 = .ok (.getfield 21, 3) := by decide +kernel
theorem dX2_copyFrom_51 : decode cX2_copyFrom 51 = .ok (.iconst 0, 1) := by decide +kernel
theorem dX2_copyFrom_52 : decode cX2_copyFrom 52 = .ok (.iconst 5, 1) := by decide +kernel
theorem dX2_copyFrom_53 : decode cX2_copyFrom 53 = .ok (.invokestatic 54, 3) := by decide +kernel
theorem dX2_copyFrom_56 : decode cX2_copyFrom 56 = .ok (.aload_n 1, 1) := by decide +kernel
theorem dX2_copyFrom_57 : decode cX2_copyFrom 57 = .ok (.getfield 24, 3) := by decide +kernel
theorem dX2_copyFrom_60 : decode cX2_copyFrom 60 = .ok (.iconst 0, 1) := by decide +kernel
theorem dX2_copyFrom_61 : decode cX2_copyFrom 61 = .ok (.aload_n 0, 1) := by decide +kernel
theorem dX2_copyFrom_62 : decode cX2_copyFrom 62 = .ok (.getfield 24, 3) := by decide +kernel
theorem dX2_copyFrom_65 : decode cX2_copyFrom 65 = .ok (.iconst 0, 1) := by decide +kernel
theorem dX2_copyFrom_66 : decode cX2_copyFrom 66 = .ok (.iconst 5, 1) := by decide +kernel
theorem dX2_copyFrom_67 : decode cX2_copyFrom 67 = .ok (.invokestatic 54, 3) := by decide +kernel
theorem dX2_copyFrom_70 : decode cX2_copyFrom 70 = .ok (.aload_n 1, 1) := by decide +kernel
theorem dX2_copyFrom_71 : decode cX2_copyFrom 71 = .ok (.getfield 28, 3) := by decide +kernel
theorem dX2_copyFrom_74 : decode cX2_copyFrom 74 = .ok (.iconst 0, 1) := by decide +kernel
theorem dX2_copyFrom_75 : decode cX2_copyFrom 75 = .ok (.aload_n 0, 1) := by decide +kernel
theorem dX2_copyFrom_76 : decode cX2_copyFrom 76 = .ok (.getfield 28, 3) := by decide +kernel
theorem dX2_copyFrom_79 : decode cX2_copyFrom 79 = .ok (.iconst 0, 1) := by decide +kernel
theorem dX2_copyFrom_80 : decode cX2_copyFrom 80 = .ok (.iconst 5, 1) := by decide +kernel
theorem dX2_copyFrom_81 : decode cX2_copyFrom 81 = .ok (.invokestatic 54, 3) := by decide +kernel
theorem dX2_copyFrom_84 : decode cX2_copyFrom 84 = .ok (.aload_n 1, 1) := by decide +kernel
theorem dX2_copyFrom_85 : decode cX2_copyFrom 85 = .ok (.getfield 31, 3) := by decide +kernel
theorem dX2_copyFrom_88 : decode cX2_copyFrom 88 = .ok (.iconst 0, 1) := by decide +kernel
theorem dX2_copyFrom_89 : decode cX2_copyFrom 89 = .ok (.aload_n 0, 1) := by decide +kernel
theorem dX2_copyFrom_90 : decode cX2_copyFrom 90 = .ok (.getfield 31, 3) := by decide +kernel
theorem dX2_copyFrom_93 : decode cX2_copyFrom 93 = .ok (.iconst 0, 1) := by decide +kernel
theorem dX2_copyFrom_94 : decode cX2_copyFrom 94 = .ok (.iconst 5, 1) := by decide +kernel
theorem dX2_copyFrom_95 : decode cX2_copyFrom 95 = .ok (.invokestatic 54, 3) := by decide +kernel
theorem dX2_copyFrom_98 : decode cX2_copyFrom 98 = .ok (.aload_n 1, 1) := by decide +kernel
theorem dX2_copyFrom_99 : decode cX2_copyFrom 99 = .ok (.getfield 34, 3) := by decide +kernel
theorem dX2_copyFrom_102 : decode cX2_copyFrom 102 = .ok (.iconst 0, 1) := by decide +kernel
theorem dX2_copyFrom_103 : decode cX2_copyFrom 103 = .ok (.aload_n 0, 1) := by decide +kernel
theorem dX2_copyFrom_104 : decode cX2_copyFrom 104 = .ok (.getfield 34, 3) := by decide +kernel
theorem dX2_copyFrom_107 : decode cX2_copyFrom 107 = .ok (.iconst 0, 1) := by decide +kernel
theorem dX2_copyFrom_108 : decode cX2_copyFrom 108 = .ok (.iconst 5, 1) := by decide +kernel
theorem dX2_copyFrom_109 : decode cX2_copyFrom 109 = .ok (.invokestatic 54, 3) := by decide +kernel
theorem dX2_copyFrom_112 : decode cX2_copyFrom 112 = .ok (.aload_n 1, 1) := by decide +kernel
theorem dX2_copyFrom_113 : decode cX2_copyFrom 113 = .ok (.getfield 37, 3) := by decide +kernel
theorem dX2_copyFrom_116 : decode cX2_copyFrom 116 = .ok (.iconst 0, 1) := by decide +kernel
theorem dX2_copyFrom_117 : decode cX2_copyFrom 117 = .ok (.aload_n 0, 1) := by decide +kernel
theorem dX2_copyFrom_118 : decode cX2_copyFrom 118 = .ok (.getfield 37, 3) := by decide +kernel
theorem dX2_copyFrom_121 : decode cX2_copyFrom 121 = .ok (.iconst 0, 1) := by decide +kernel
theorem dX2_copyFrom_122 : decode cX2_copyFrom 122 = .ok (.iconst 5, 1) := by decide +kernel
theorem dX2_copyFrom_123 : decode cX2_copyFrom 123 = .ok (.invokestatic 54, 3) := by decide +kernel
theorem dX2_copyFrom_126 : decode cX2_copyFrom 126 = .ok (.aload_n 1, 1) := by decide +kernel
theorem dX2_copyFrom_127 : decode cX2_copyFrom 127 = .ok (.getfield 40, 3) := by decide +kernel
theorem dX2_copyFrom_130 : decode cX2_copyFrom 130 = .ok (.iconst 0, 1) := by decide +kernel
theorem dX2_copyFrom_131 : decode cX2_copyFrom 131 = .ok (.aload_n 0, 1) := by decide +kernel
theorem dX2_copyFrom_132 : decode cX2_copyFrom 132 = .ok (.getfield 40, 3) := by decide +kernel
theorem dX2_copyFrom_135 : decode cX2_copyFrom 135 = .ok (.iconst 0, 1) := by decide +kernel
theorem dX2_copyFrom_136 : decode cX2_copyFrom 136 = .ok (.iconst 5, 1) := by decide +kernel
theorem dX2_copyFrom_137 : decode cX2_copyFrom 137 = .ok (.invokestatic 54, 3) := by decide +kernel
theorem dX2_copyFrom_140 : decode cX2_copyFrom 140 = .ok (.aload_n 0, 1) := by decide +kernel
theorem dX2_copyFrom_141 : decode cX2_copyFrom 141 = .ok (.aload_n 1, 1) := by decide +kernel
theorem dX2_copyFrom_142 : decode cX2_copyFrom 142 = .ok (.getfield 43, 3) := by decide +kernel
theorem dX2_copyFrom_145 : decode cX2_copyFrom 145 = .ok (.putfield 43, 3) := by decide +kernel
theorem dX2_copyFrom_148 : decode cX2_copyFrom 148 = .ok (.aload_n 0, 1) := by decide +kernel
theorem dX2_copyFrom_149 : decode cX2_copyFrom 149 = .ok (.aload_n 1, 1) := by decide +kernel
theorem dX2_copyFrom_150 : decode cX2_copyFrom 150 = .ok (.getfield 47, 3) := by decide +kernel
theorem dX2_copyFrom_153 : decode cX2_copyFrom 153 = .ok (.putfield 47, 3) := by decide +kernel
theorem dX2_copyFrom_156 : decode cX2_copyFrom 156 = .ok (.aload_n 0, 1) := by decide +kernel
theorem dX2_copyFrom_157 : decode cX2_copyFrom 157 = .ok (.aload_n 1, 1) := by decide +kernel
theorem dX2_copyFrom_158 : decode cX2_copyFrom 158 = .ok (.getfield 51, 3) := by decide +kernel
theorem dX2_copyFrom_161 : decode cX2_copyFrom 161 = .ok (.putfield 51, 3) := by decide +kernel
theorem dX2_copyFrom_164 : decode cX2_copyFrom 164 = .ok (.return_, 1) := by decide +kernel
theorem dX2_playerAt_0 : decode cX2_playerAt 0 = .ok (.iconst 0, 1) := by decide +kernel
theorem dX2_playerAt_1 : decode cX2_playerAt 1 = .ok (.istore_n 2, 1) := by decide +kernel
theorem dX2_playerAt_2 : decode cX2_playerAt 2 = .ok (.iload_n 2, 1) := by decide +kernel
theorem dX2_playerAt_3 : decode cX2_playerAt 3 = .ok (.iconst 5, 1) := by decide +kernel
theorem dX2_playerAt_4 : decode cX2_playerAt 4 = .ok (.if_icmp .ge 21, 3) := by decide +kernel
theorem dX2_playerAt_7 : decode cX2_playerAt 7 = .ok (.aload_n 0, 1) := by decide +kernel
theorem dX2_playerAt_8 : decode cX2_playerAt 8 = .ok (.getfield 24, 3) := by decide +kernel
theorem dX2_playerAt_11 : decode cX2_playerAt 11 = .ok (.iload_n 2, 1) := by decide +kernel
theorem dX2_playerAt_12 : decode cX2_playerAt 12 = .ok (.iaload, 1) := by decide +kernel
theorem dX2_playerAt_13 : decode cX2_playerAt 13 = .ok (.iload_n 1, 1) := by decide +kernel
theorem dX2_playerAt_14 : decode cX2_playerAt 14 = .ok (.if_icmp .ne 5, 3) := by decide +kernel
theorem dX2_playerAt_17 : decode cX2_playerAt 17 = .ok (.iload_n 2, 1) := by decide +kernel
theorem dX2_playerAt_18 : decode cX2_playerAt 18 = .ok (.ireturn, 1) := by decide +kernel
theorem dX2_playerAt_19 : decode cX2_playerAt 19 = .ok (.iinc 2 1, 3) := by decide +kernel
theorem dX2_playerAt_22 : decode cX2_playerAt 22 = .ok (.goto (-20), 3) := by decide +kernel
theorem dX2_playerAt_25 : decode cX2_playerAt 25 = .ok (.ldc 27, 2) := by decide +kernel
theorem dX2_playerAt_27 : decode cX2_playerAt 27 = .ok (.ireturn, 1) := by decide +kernel
theorem dX2_playersLeft_0 : decode cX2_playersLeft 0 = .ok (.aload_n 0, 1) := by decide +kernel
theorem dX2_playersLeft_1 : decode cX2_playersLeft 1 = .ok (.getfield 43, 3) := by decide +kernel
theorem dX2_playersLeft_4 : decode cX2_playersLeft 4 = .ok (.ifCond .ne 5, 3) := by decide +kernel
theorem dX2_playersLeft_7 : decode cX2_playersLeft 7 = .ok (.iconst 0, 1) := by decide +kernel
theorem dX2_playersLeft_8 : decode cX2_playersLeft 8 = .ok (.ireturn, 1) := by decide +kernel
theorem dX2_playersLeft_9 : decode cX2_playersLeft 9 = .ok (.iconst 0, 1) := by decide +kernel
theorem dX2_playersLeft_10 : decode cX2_playersLeft 10 = .ok (.istore_n 1, 1) := by decide +kernel
theorem dX2_playersLeft_11 : decode cX2_playersLeft 11 = .ok (.iconst 0, 1) := by decide +kernel
theorem dX2_playersLeft_12 : decode cX2_playersLeft 12 = .ok (.istore_n 2, 1) := by decide +kernel
theorem dX2_playersLeft_13 : decode cX2_playersLeft 13 = .ok (.iload_n 2, 1) := by decide +kernel
theorem dX2_playersLeft_14 : decode cX2_playersLeft 14 = .ok (.iconst 5, 1) := by decide +kernel
theorem dX2_playersLeft_15 : decode cX2_playersLeft 15 = .ok (.if_icmp .ge 26, 3) := by decide +kernel
theorem dX2_playersLeft_18 : decode cX2_playersLeft 18 = .ok (.aload_n 0, 1) := by decide +kernel
theorem dX2_playersLeft_19 : decode cX2_playersLeft 19 = .ok (.getfield 31, 3) := by decide +kernel
theorem dX2_playersLeft_22 : decode cX2_playersLeft 22 = .ok (.iload_n 2, 1) := by decide +kernel
theorem dX2_playersLeft_23 : decode cX2_playersLeft 23 = .ok (.iaload, 1) := by decide +kernel
theorem dX2_playersLeft_24 : decode cX2_playersLeft 24 = .ok (.ldc 27, 2) := by decide +kernel
theorem dX2_playersLeft_26 : decode cX2_playersLeft 26 = .ok (.if_icmp .ne 9, 3) := by decide +kernel
theorem dX2_playersLeft_29 : decode cX2_playersLeft 29 = .ok (.iload_n 1, 1) := by decide +kernel
theorem dX2_playersLeft_30 : decode cX2_playersLeft 30 = .ok (.iconst 1, 1) := by decide +kernel
theorem dX2_playersLeft_31 : decode cX2_playersLeft 31 = .ok (.iload_n 2, 1) := by decide +kernel
theorem dX2_playersLeft_32 : decode cX2_playersLeft 32 = .ok (.ishl, 1) := by decide +kernel
theorem dX2_playersLeft_33 : decode cX2_playersLeft 33 = .ok (.ior, 1) := by decide +kernel
theorem dX2_playersLeft_34 : decode cX2_playersLeft 34 = .ok (.istore_n 1, 1) := by decide +kernel
theorem dX2_playersLeft_35 : decode cX2_playersLeft 35 = .ok (.iinc 2 1, 3) := by decide +kernel
theorem dX2_playersLeft_38 : decode cX2_playersLeft 38 = .ok (.goto (-25), 3) := by decide +kernel
theorem dX2_playersLeft_41 : decode cX2_playersLeft 41 = .ok (.iload_n 1, 1) := by decide +kernel
theorem dX2_playersLeft_42 : decode cX2_playersLeft 42 = .ok (.ireturn, 1) := by decide +kernel
theorem dX2_highestBid_0 : decode cX2_highestBid 0 = .ok (.ldc 27, 2) := by decide +kernel
theorem dX2_highestBid_2 : decode cX2_highestBid 2 = .ok (.istore_n 1, 1) := by decide +kernel
theorem dX2_highestBid_3 : decode cX2_highestBid 3 = .ok (.aload_n 0, 1) := by decide +kernel
theorem dX2_highestBid_4 : decode cX2_highestBid 4 = .ok (.getfield 28, 3) := by decide +kernel
theorem dX2_highestBid_7 : decode cX2_highestBid 7 = .ok (.astore_n 2, 1) := by decide +kernel
theorem dX2_highestBid_8 : decode cX2_highestBid 8 = .ok (.aload_n 2, 1) := by decide +kernel
theorem dX2_highestBid_9 : decode cX2_highestBid 9 = .ok (.arraylength, 1) := by decide +kernel
theorem dX2_highestBid_10 : decode cX2_highestBid 10 = .ok (.istore_n 3, 1) := by decide +kernel
theorem dX2_highestBid_11 : decode cX2_highestBid 11 = .ok (.iconst 0, 1) := by decide +kernel
theorem dX2_highestBid_12 : decode cX2_highestBid 12 = .ok (.istore 4, 2) := by decide +kernel
theorem dX2_highestBid_14 : decode cX2_highestBid 14 = .ok (.iload 4, 2) := by decide +kernel
theorem dX2_highestBid_16 : decode cX2_highestBid 16 = .ok (.iload_n 3, 1) := by decide +kernel
theorem dX2_highestBid_17 : decode cX2_highestBid 17 = .ok (.if_icmp .ge 24, 3) := by decide +kernel
theorem dX2_highestBid_20 : decode cX2_highestBid 20 = .ok (.aload_n 2, 1) := by decide +kernel
theorem dX2_highestBid_21 : decode cX2_highestBid 21 = .ok (.iload 4, 2) := by decide +kernel
theorem dX2_highestBid_23 : decode cX2_highestBid 23 = .ok (.iaload, 1) := by decide +kernel
theorem dX2_highestBid_24 : decode cX2_highestBid 24 = .ok (.istore 5, 2) := by decide +kernel
theorem dX2_highestBid_26 : decode cX2_highestBid 26 = .ok (.iload 5, 2) := by decide +kernel
theorem dX2_highestBid_28 : decode cX2_highestBid 28 = .ok (.iload_n 1, 1) := by decide +kernel
theorem dX2_highestBid_29 : decode cX2_highestBid 29 = .ok (.if_icmp .le 6, 3) := by decide +kernel
theorem dX2_highestBid_32 : decode cX2_highestBid 32 = .ok (.iload 5, 2) := by decide +kernel
theorem dX2_highestBid_34 : decode cX2_highestBid 34 = .ok (.istore_n 1, 1) := by decide +kernel
theorem dX2_highestBid_35 : decode cX2_highestBid 35 = .ok (.iinc 4 1, 3) := by decide +kernel
theorem dX2_highestBid_38 : decode cX2_highestBid 38 = .ok (.goto (-24), 3) := by decide +kernel
theorem dX2_highestBid_41 : decode cX2_highestBid 41 = .ok (.iload_n 1, 1) := by decide +kernel
theorem dX2_highestBid_42 : decode cX2_highestBid 42 = .ok (.ireturn, 1) := by decide +kernel
set_option maxRecDepth 20000 in
theorem ggX2_leastBid_X2_highestBid : GoodIn wsX2_leastBid wsX2_highestBid := goodIn_r _ [8, 2, 9, 10, 11, 12, 13, 14, 15, 16, 17, 18, 19, 20, 21, 22] (by decide +kernel) (by decide +kernel)
set_option maxRecDepth 20000 in
theorem gX2_leastBid_X2_highestBid : GoodIn wsX2_leastBid (wsV RX2 60 RX2 yX2_highestBid wsX2_highestBid) := goodIn_app (goodIn_of _ (by decide +kernel)) ggX2_leastBid_X2_highestBid
theorem dX2_leastBid_0 : decode cX2_leastBid 0 = .ok (.aload_n 0, 1) := by decide +kernel
theorem dX2_leastBid_1 : decode cX2_leastBid 1 = .ok (.getfield 43, 3) := by decide +kernel
theorem dX2_leastBid_4 : decode cX2_leastBid 4 = .ok (.ifCond .ne 6, 3) := by decide +kernel
theorem dX2_leastBid_7 : decode cX2_leastBid 7 = .ok (.ldc 27, 2) := by decide +kernel
theorem dX2_leastBid_9 : decode cX2_leastBid 9 = .ok (.ireturn, 1) := by decide +kernel
theorem dX2_leastBid_10 : decode cX2_leastBid 10 = .ok (.aload_n 0, 1) := by decide +kernel
theorem dX2_leastBid_11 : decode cX2_leastBid 11 = .ok (.invokevirtual 60, 3) := by decide +kernel
theorem dX2_leastBid_14 : decode cX2_leastBid 14 = .ok (.istore_n 1, 1) := by decide +kernel
theorem dX2_leastBid_15 : decode cX2_leastBid 15 = .ok (.iload_n 1, 1) := by decide +kernel
theorem dX2_leastBid_16 : decode cX2_leastBid 16 = .ok (.ldc 27, 2) := by decide +kernel
theorem dX2_leastBid_18 : decode cX2_leastBid 18 = .ok (.if_icmp .ne 12, 3) := by decide +kernel
theorem dX2_leastBid_21 : decode cX2_leastBid 21 = .ok (.aload_n 0, 1) := by decide +kernel
theorem dX2_leastBid_22 : decode cX2_leastBid 22 = .ok (.getfield 9, 3) := by decide +kernel
theorem dX2_leastBid_25 : decode cX2_leastBid 25 = .ok (.iconst 1, 1) := by decide +kernel
theorem dX2_leastBid_26 : decode cX2_leastBid 26 = .ok (.iaload, 1) := by decide +kernel
theorem dX2_leastBid_27 : decode cX2_leastBid 27 = .ok (.goto 11, 3) := by decide +kernel
theorem dX2_leastBid_30 : decode cX2_leastBid 30 = .ok (.iload_n 1, 1) := by decide +kernel
theorem dX2_leastBid_31 : decode cX2_leastBid 31 = .ok (.aload_n 0, 1) := by decide +kernel
theorem dX2_leastBid_32 : decode cX2_leastBid 32 = .ok (.getfield 9, 3) := by decide +kernel
theorem dX2_leastBid_35 : decode cX2_leastBid 35 = .ok (.iconst 0, 1) := by decide +kernel
theorem dX2_leastBid_36 : decode cX2_leastBid 36 = .ok (.iaload, 1) := by decide +kernel
theorem dX2_leastBid_37 : decode cX2_leastBid 37 = .ok (.iadd, 1) := by decide +kernel
theorem dX2_leastBid_38 : decode cX2_leastBid 38 = .ok (.ireturn, 1) := by decide +kernel
set_option maxRecDepth 20000 in
theorem ggX2_hasToCover_X3_isPlayer : GoodIn wsX2_hasToCover wsX3_isPlayer := goodIn_r _ [10] (by decide +kernel) (by decide +kernel)
set_option maxRecDepth 20000 in
theorem gX2_hasToCover_X3_isPlayer_n64 : GoodIn wsX2_hasToCover (wsX3_isPlayer) := ggX2_hasToCover_X3_isPlayer
theorem dX2_hasToCover_0 : decode cX2_hasToCover 0 = .ok (.iload_n 1, 1) := by decide +kernel
theorem dX2_hasToCover_1 : decode cX2_hasToCover 1 = .ok (.invokestatic 64, 3) := by decide +kernel
theorem dX2_hasToCover_4 : decode cX2_hasToCover 4 = .ok (.ifCond .eq 14, 3) := by decide +kernel
theorem dX2_hasToCover_7 : decode cX2_hasToCover 7 = .ok (.aload_n 0, 1) := by decide +kernel
theorem dX2_hasToCover_8 : decode cX2_hasToCover 8 = .ok (.getfield 31, 3) := by decide +kernel
theorem dX2_hasToCover_11 : decode cX2_hasToCover 11 = .ok (.iload_n 1, 1) := by decide +kernel
theorem dX2_hasToCover_12 : decode cX2_hasToCover 12 = .ok (.iaload, 1) := by decide +kernel
theorem dX2_hasToCover_13 : decode cX2_hasToCover 13 = .ok (.ldc 27, 2) := by decide +kernel
theorem dX2_hasToCover_15 : decode cX2_hasToCover 15 = .ok (.if_icmp .eq 5, 3) := by decide +kernel
theorem dX2_hasToCover_18 : decode cX2_hasToCover 18 = .ok (.iconst 0, 1) := by decide +kernel
theorem dX2_hasToCover_19 : decode cX2_hasToCover 19 = .ok (.ireturn, 1) := by decide +kernel
theorem dX2_hasToCover_20 : decode cX2_hasToCover 20 = .ok (.iconst 0, 1) := by decide +kernel
theorem dX2_hasToCover_21 : decode cX2_hasToCover 21 = .ok (.aload_n 0, 1) := by decide +kernel
theorem dX2_hasToCover_22 : decode cX2_hasToCover 22 = .ok (.getfield 28, 3) := by decide +kernel
theorem dX2_hasToCover_25 : decode cX2_hasToCover 25 = .ok (.iload_n 1, 1) := by decide +kernel
theorem dX2_hasToCover_26 : decode cX2_hasToCover 26 = .ok (.iaload, 1) := by decide +kernel
theorem dX2_hasToCover_27 : decode cX2_hasToCover 27 = .ok (.invokestatic 68, 3) := by decide +kernel
theorem dX2_hasToCover_30 : decode cX2_hasToCover 30 = .ok (.ireturn, 1) := by decide +kernel
set_option maxRecDepth 20000 in
theorem ggX2_mayBid_X3_isPlayer : GoodIn wsX2_mayBid wsX3_isPlayer := goodIn_r _ [6] (by decide +kernel) (by decide +kernel)
set_option maxRecDepth 20000 in
theorem gX2_mayBid_X3_isPlayer_n64 : GoodIn wsX2_mayBid (wsX3_isPlayer) := ggX2_mayBid_X3_isPlayer
set_option maxRecDepth 20000 in
theorem ggX2_mayBid_X2_leastBid : GoodIn wsX2_mayBid wsX2_leastBid := goodIn_r _ [11, 1, 12, 13, 14, 15, 16, 10, 17, 18, 19, 20, 21, 22, 23, 24, 25, 26, 27, 28, 29, 30, 31] (by decide +kernel) (by decide +kernel)
set_option maxRecDepth 20000 in
theorem gX2_mayBid_X2_leastBid : GoodIn wsX2_mayBid (wsV RX2 74 RX2 yX2_leastBid wsX2_leastBid) := goodIn_app (goodIn_of _ (by decide +kernel)) ggX2_mayBid_X2_leastBid
theorem dX2_mayBid_0 : decode cX2_mayBid 0 = .ok (.aload_n 0, 1) := by decide +kernel
theorem dX2_mayBid_1 : decode cX2_mayBid 1 = .ok (.getfield 43, 3) := by decide +kernel
theorem dX2_mayBid_4 : decode cX2_mayBid 4 = .ok (.ifCond .eq 38, 3) := by decide +kernel
theorem dX2_mayBid_7 : decode cX2_mayBid 7 = .ok (.aload_n 0, 1) := by decide +kernel
theorem dX2_mayBid_8 : decode cX2_mayBid 8 = .ok (.getfield 47, 3) := by decide +kernel
theorem dX2_mayBid_11 : decode cX2_mayBid 11 = .ok (.invokestatic 64, 3) := by decide +kernel
theorem dX2_mayBid_14 : decode cX2_mayBid 14 = .ok (.ifCond .eq 28, 3) := by decide +kernel
theorem dX2_mayBid_17 : decode cX2_mayBid 17 = .ok (.iload_n 1, 1) := by decide +kernel
theorem dX2_mayBid_18 : decode cX2_mayBid 18 = .ok (.aload_n 0, 1) := by decide +kernel
theorem dX2_mayBid_19 : decode cX2_mayBid 19 = .ok (.invokevirtual 74, 3) := by decide +kernel
theorem dX2_mayBid_22 : decode cX2_mayBid 22 = .ok (.if_icmp .lt 20, 3) := by decide +kernel
theorem dX2_mayBid_25 : decode cX2_mayBid 25 = .ok (.iload_n 1, 1) := by decide +kernel
theorem dX2_mayBid_26 : decode cX2_mayBid 26 = .ok (.aload_n 0, 1) := by decide +kernel
theorem dX2_mayBid_27 : decode cX2_mayBid 27 = .ok (.getfield 18, 3) := by decide +kernel
theorem dX2_mayBid_30 : decode cX2_mayBid 30 = .ok (.aload_n 0, 1) := by decide +kernel
theorem dX2_mayBid_31 : decode cX2_mayBid 31 = .ok (.getfield 47, 3) := by decide +kernel
theorem dX2_mayBid_34 : decode cX2_mayBid 34 = .ok (.iaload, 1) := by decide +kernel
theorem dX2_mayBid_35 : decode cX2_mayBid 35 = .ok (.if_icmp .gt 7, 3) := by decide +kernel
theorem dX2_mayBid_38 : decode cX2_mayBid 38 = .ok (.iconst 1, 1) := by decide +kernel
theorem dX2_mayBid_39 : decode cX2_mayBid 39 = .ok (.goto 4, 3) := by decide +kernel
theorem dX2_mayBid_42 : decode cX2_mayBid 42 = .ok (.iconst 0, 1) := by decide +kernel
theorem dX2_mayBid_43 : decode cX2_mayBid 43 = .ok (.ireturn, 1) := by decide +kernel
set_option maxRecDepth 20000 in
theorem ggX2_start_X2_playerAt : GoodIn wsX2_start wsX2_playerAt := goodIn_r _ [7, 8, 9, 10, 11, 12, 13, 14, 15, 16, 17, 18, 19, 20, 21, 22] (by decide +kernel) (by decide +kernel)
set_option maxRecDepth 20000 in
theorem gX2_start_X2_playerAt : GoodIn wsX2_start (wsV RX2 77 RX2 yX2_playerAt wsX2_playerAt) := goodIn_app (goodIn_of _ (by decide +kernel)) ggX2_start_X2_playerAt
theorem dX2_start_0 : decode cX2_start 0 = .ok (.aload_n 0, 1) := by decide +kernel
theorem dX2_start_1 : decode cX2_start 1 = .ok (.iconst 1, 1) := by decide +kernel
theorem dX2_start_2 : decode cX2_start 2 = .ok (.putfield 43, 3) := by decide +kernel
theorem dX2_start_5 : decode cX2_start 5 = .ok (.aload_n 0, 1) := by decide +kernel
theorem dX2_start_6 : decode cX2_start 6 = .ok (.aload_n 0, 1) := by decide +kernel
theorem dX2_start_7 : decode cX2_start 7 = .ok (.iconst 0, 1) := by decide +kernel
theorem dX2_start_8 : decode cX2_start 8 = .ok (.invokevirtual 77, 3) := by decide +kernel
theorem dX2_start_11 : decode cX2_start 11 = .ok (.putfield 47, 3) := by decide +kernel
theorem dX2_start_14 : decode cX2_start 14 = .ok (.aload_n 0, 1) := by decide +kernel
theorem dX2_start_15 : decode cX2_start 15 = .ok (.getfield 47, 3) := by decide +kernel
theorem dX2_start_18 : decode cX2_start 18 = .ok (.ireturn, 1) := by decide +kernel
set_option maxRecDepth 20000 in
theorem ggX2_takeBid_X3_isPlayer : GoodIn wsX2_takeBid wsX3_isPlayer := goodIn_r _ [5] (by decide +kernel) (by decide +kernel)
set_option maxRecDepth 20000 in
theorem gX2_takeBid_X3_isPlayer_n64 : GoodIn wsX2_takeBid (wsX3_isPlayer) := ggX2_takeBid_X3_isPlayer
set_option maxRecDepth 20000 in
theorem ggX2_takeBid_X2_passTurn : GoodIn wsX2_takeBid wsX2_passTurn := goodIn_r _ [10, 1, 11, 12, 13, 3, 4, 5, 14, 15, 16, 9, 17, 18, 19, 20, 21, 22, 23, 24, 25, 26, 27, 28, 29, 30] (by decide +kernel) (by decide +kernel)
set_option maxRecDepth 20000 in
theorem gX2_takeBid_X2_passTurn : GoodIn wsX2_takeBid (wsV RX2 81 RX2 yX2_passTurn wsX2_passTurn) := goodIn_app (goodIn_of _ (by decide +kernel)) ggX2_takeBid_X2_passTurn
theorem dX2_takeBid_0 : decode cX2_takeBid 0 = .ok (.aload_n 0, 1) := by decide +kernel
theorem dX2_takeBid_1 : decode cX2_takeBid 1 = .ok (.getfield 47, 3) := by decide +kernel
theorem dX2_takeBid_4 : decode cX2_takeBid 4 = .ok (.invokestatic 64, 3) := by decide +kernel
theorem dX2_takeBid_7 : decode cX2_takeBid 7 = .ok (.ifCond .eq 13, 3) := by decide +kernel
theorem dX2_takeBid_10 : decode cX2_takeBid 10 = .ok (.aload_n 0, 1) := by decide +kernel
theorem dX2_takeBid_11 : decode cX2_takeBid 11 = .ok (.getfield 28, 3) := by decide +kernel
theorem dX2_takeBid_14 : decode cX2_takeBid 14 = .ok (.aload_n 0, 1) := by decide +kernel
theorem dX2_takeBid_15 : decode cX2_takeBid 15 = .ok (.getfield 47, 3) := by decide +kernel
theorem dX2_takeBid_18 : decode cX2_takeBid 18 = .ok (.iload_n 1, 1) := by decide +kernel
theorem dX2_takeBid_19 : decode cX2_takeBid 19 = .ok (.iastore, 1) := by decide +kernel
theorem dX2_takeBid_20 : decode cX2_takeBid 20 = .ok (.aload_n 0, 1) := by decide +kernel
theorem dX2_takeBid_21 : decode cX2_takeBid 21 = .ok (.invokevirtual 81, 3) := by decide +kernel
theorem dX2_takeBid_24 : decode cX2_takeBid 24 = .ok (.aload_n 0, 1) := by decide +kernel
theorem dX2_takeBid_25 : decode cX2_takeBid 25 = .ok (.getfield 47, 3) := by decide +kernel
theorem dX2_takeBid_28 : decode cX2_takeBid 28 = .ok (.ireturn, 1) := by decide +kernel
set_option maxRecDepth 20000 in
theorem ggX2_dropOut_X3_isPlayer : GoodIn wsX2_dropOut wsX3_isPlayer := goodIn_r _ [7] (by decide +kernel) (by decide +kernel)
set_option maxRecDepth 20000 in
theorem gX2_dropOut_X3_isPlayer_n64 : GoodIn wsX2_dropOut (wsX3_isPlayer) := ggX2_dropOut_X3_isPlayer
set_option maxRecDepth 20000 in
theorem ggX2_dropOut_X2_playersLeft : GoodIn wsX2_dropOut wsX2_playersLeft := goodIn_r _ [12, 13, 3, 2, 53, 54, 55, 56, 57, 58, 59, 60, 61, 62, 63, 64, 65] (by decide +kernel) (by decide +kernel)
set_option maxRecDepth 20000 in
theorem gX2_dropOut_X2_playersLeft : GoodIn wsX2_dropOut (wsV RX2 84 RX2 yX2_playersLeft wsX2_playersLeft) := goodIn_app (goodIn_of _ (by decide +kernel)) ggX2_dropOut_X2_playersLeft
set_option maxRecDepth 20000 in
theorem ggX2_dropOut_J6_bitCount_0f7a4 : GoodIn wsX2_dropOut wsJ6_bitCount_0f7a4 := goodIn_r _ [17, 18, 19, 20] (by decide +kernel) (by decide +kernel)
set_option maxRecDepth 20000 in
theorem gX2_dropOut_J6_bitCount_0f7a4 : GoodIn wsX2_dropOut (va_wsS RX2 87 yJ6_bitCount_0f7a4 wsJ6_bitCount_0f7a4) := goodIn_app (goodIn_of _ (by decide +kernel)) ggX2_dropOut_J6_bitCount_0f7a4
set_option maxRecDepth 20000 in
theorem ggX2_dropOut_X2_pay : GoodIn wsX2_dropOut wsX2_pay := goodIn_r _ [24, 25, 2, 26, 27, 5, 6, 7, 53, 54, 55, 56, 57, 58, 59, 60, 61, 62, 63, 64, 65] (by decide +kernel) (by decide +kernel)
set_option maxRecDepth 20000 in
theorem gX2_dropOut_X2_pay : GoodIn wsX2_dropOut (wsV RX2 92 RX2 yX2_pay wsX2_pay) := goodIn_app (goodIn_of _ (by decide +kernel)) ggX2_dropOut_X2_pay
set_option maxRecDepth 20000 in
theorem ggX2_dropOut_X2_endAuction : GoodIn wsX2_dropOut wsX2_endAuction := goodIn_r _ [31, 3, 2, 32, 4, 33, 26, 34, 35, 36, 37, 38, 25, 13, 1, 39, 21, 22, 23, 11, 24, 27, 5, 6, 7, 40, 41, 42, 43, 44, 53, 54, 55, 56, 57, 58, 59, 60, 61, 62, 63, 64, 65] (by decide +kernel) (by decide +kernel)
set_option maxRecDepth 20000 in
theorem gX2_dropOut_X2_endAuction : GoodIn wsX2_dropOut (wsV RX2 96 RX2 yX2_endAuction wsX2_endAuction) := goodIn_app (goodIn_of _ (by decide +kernel)) ggX2_dropOut_X2_endAuction
set_option maxRecDepth 20000 in
theorem ggX2_dropOut_X2_passTurn : GoodIn wsX2_dropOut wsX2_passTurn := goodIn_r _ [48, 1, 33, 3, 2, 5, 6, 7, 49, 50, 51, 11, 52, 53, 54, 55, 56, 57, 58, 59, 60, 61, 62, 63, 64, 65] (by decide +kernel) (by decide +kernel)
set_option maxRecDepth 20000 in
theorem gX2_dropOut_X2_passTurn : GoodIn wsX2_dropOut (wsV RX2 81 RX2 yX2_passTurn wsX2_passTurn) := goodIn_app (goodIn_of _ (by decide +kernel)) ggX2_dropOut_X2_passTurn
theorem dX2_dropOut_0 : decode cX2_dropOut 0 = .ok (.aload_n 0, 1) := by decide +kernel
theorem dX2_dropOut_1 : decode cX2_dropOut 1 = .ok (.getfield 47, 3) := by decide +kernel
theorem dX2_dropOut_4 : decode cX2_dropOut 4 = .ok (.invokestatic 64, 3) := by decide +kernel
theorem dX2_dropOut_7 : decode cX2_dropOut 7 = .ok (.ifCond .ne 6, 3) := by decide +kernel
theorem dX2_dropOut_10 : decode cX2_dropOut 10 = .ok (.ldc 27, 2) := by decide +kernel
theorem dX2_dropOut_12 : decode cX2_dropOut 12 = .ok (.ireturn, 1) := by decide +kernel
theorem dX2_dropOut_13 : decode cX2_dropOut 13 = .ok (.aload_n 0, 1) := by decide +kernel
theorem dX2_dropOut_14 : decode cX2_dropOut 14 = .ok (.invokevirtual 84, 3) := by decide +kernel
theorem dX2_dropOut_17 : decode cX2_dropOut 17 = .ok (.invokestatic 87, 3) := by decide +kernel
theorem dX2_dropOut_20 : decode cX2_dropOut 20 = .ok (.iconst 1, 1) := by decide +kernel
theorem dX2_dropOut_21 : decode cX2_dropOut 21 = .ok (.isub, 1) := by decide +kernel
theorem dX2_dropOut_22 : decode cX2_dropOut 22 = .ok (.istore_n 1, 1) := by decide +kernel
theorem dX2_dropOut_23 : decode cX2_dropOut 23 = .ok (.aload_n 0, 1) := by decide +kernel
theorem dX2_dropOut_24 : decode cX2_dropOut 24 = .ok (.getfield 31, 3) := by decide +kernel
theorem dX2_dropOut_27 : decode cX2_dropOut 27 = .ok (.aload_n 0, 1) := by decide +kernel
theorem dX2_dropOut_28 : decode cX2_dropOut 28 = .ok (.getfield 47, 3) := by decide +kernel
theorem dX2_dropOut_31 : decode cX2_dropOut 31 = .ok (.iload_n 1, 1) := by decide +kernel
theorem dX2_dropOut_32 : decode cX2_dropOut 32 = .ok (.iastore, 1) := by decide +kernel
theorem dX2_dropOut_33 : decode cX2_dropOut 33 = .ok (.aload_n 0, 1) := by decide +kernel
theorem dX2_dropOut_34 : decode cX2_dropOut 34 = .ok (.aload_n 0, 1) := by decide +kernel
theorem dX2_dropOut_35 : decode cX2_dropOut 35 = .ok (.getfield 47, 3) := by decide +kernel
theorem dX2_dropOut_38 : decode cX2_dropOut 38 = .ok (.aload_n 0, 1) := by decide +kernel
theorem dX2_dropOut_39 : decode cX2_dropOut 39 = .ok (.getfield 9, 3) := by decide +kernel
theorem dX2_dropOut_42 : decode cX2_dropOut 42 = .ok (.iconst 3, 1) := by decide +kernel
theorem dX2_dropOut_43 : decode cX2_dropOut 43 = .ok (.iaload, 1) := by decide +kernel
theorem dX2_dropOut_44 : decode cX2_dropOut 44 = .ok (.iconst 0, 1) := by decide +kernel
theorem dX2_dropOut_45 : decode cX2_dropOut 45 = .ok (.invokevirtual 92, 3) := by decide +kernel
theorem dX2_dropOut_48 : decode cX2_dropOut 48 = .ok (.iload_n 1, 1) := by decide +kernel
theorem dX2_dropOut_49 : decode cX2_dropOut 49 = .ok (.iconst 1, 1) := by decide +kernel
theorem dX2_dropOut_50 : decode cX2_dropOut 50 = .ok (.if_icmp .ne 10, 3) := by decide +kernel
theorem dX2_dropOut_53 : decode cX2_dropOut 53 = .ok (.aload_n 0, 1) := by decide +kernel
theorem dX2_dropOut_54 : decode cX2_dropOut 54 = .ok (.invokevirtual 96, 3) := by decide +kernel
theorem dX2_dropOut_57 : decode cX2_dropOut 57 = .ok (.goto 7, 3) := by decide +kernel
theorem dX2_dropOut_60 : decode cX2_dropOut 60 = .ok (.aload_n 0, 1) := by decide +kernel
theorem dX2_dropOut_61 : decode cX2_dropOut 61 = .ok (.invokevirtual 81, 3) := by decide +kernel
theorem dX2_dropOut_64 : decode cX2_dropOut 64 = .ok (.aload_n 0, 1) := by decide +kernel
theorem dX2_dropOut_65 : decode cX2_dropOut 65 = .ok (.getfield 47, 3) := by decide +kernel
theorem dX2_dropOut_68 : decode cX2_dropOut 68 = .ok (.ireturn, 1) := by decide +kernel
set_option maxRecDepth 20000 in
theorem ggX2_actByLimit_X2_leastBid : GoodIn wsX2_actByLimit wsX2_leastBid := goodIn_r _ [7, 8, 9, 10, 11, 12, 13, 6, 14, 15, 74, 75, 76, 77, 78, 79, 80, 81, 82, 83, 84, 85, 86] (by decide +kernel) (by decide +kernel)
set_option maxRecDepth 20000 in
theorem gX2_actByLimit_X2_leastBid : GoodIn wsX2_actByLimit (wsV RX2 74 RX2 yX2_leastBid wsX2_leastBid) := goodIn_app (goodIn_of _ (by decide +kernel)) ggX2_actByLimit_X2_leastBid
set_option maxRecDepth 20000 in
theorem ggX2_actByLimit_X3_isPlayer : GoodIn wsX2_actByLimit wsX3_isPlayer := goodIn_r _ [18] (by decide +kernel) (by decide +kernel)
set_option maxRecDepth 20000 in
theorem gX2_actByLimit_X3_isPlayer_n64 : GoodIn wsX2_actByLimit (wsX3_isPlayer) := ggX2_actByLimit_X3_isPlayer
set_option maxRecDepth 20000 in
theorem ggX2_actByLimit_X2_mayBid : GoodIn wsX2_actByLimit wsX2_mayBid := goodIn_r _ [22, 8, 1, 23, 16, 17, 18, 3, 4, 5, 6, 7, 9, 10, 11, 12, 13, 14, 15, 74, 75, 76, 77, 78, 79, 80, 81, 82, 83, 84, 85, 86] (by decide +kernel) (by decide +kernel)
set_option maxRecDepth 20000 in
theorem gX2_actByLimit_X2_mayBid : GoodIn wsX2_actByLimit (wsV RX2 99 RX2 yX2_mayBid wsX2_mayBid) := goodIn_app (goodIn_of _ (by decide +kernel)) ggX2_actByLimit_X2_mayBid
set_option maxRecDepth 20000 in
theorem ggX2_actByLimit_X2_takeBid : GoodIn wsX2_actByLimit wsX2_takeBid := goodIn_r _ [27, 1, 15, 16, 17, 18, 28, 29, 30, 6, 31, 32, 33, 9, 34, 35, 36, 37, 74, 75, 76, 77, 78, 79, 80, 81, 82, 83, 84, 85, 86] (by decide +kernel) (by decide +kernel)
set_option maxRecDepth 20000 in
theorem gX2_actByLimit_X2_takeBid : GoodIn wsX2_actByLimit (wsV RX2 102 RX2 yX2_takeBid wsX2_takeBid) := goodIn_app (goodIn_of _ (by decide +kernel)) ggX2_actByLimit_X2_takeBid
set_option maxRecDepth 20000 in
theorem ggX2_actByLimit_X2_dropOut : GoodIn wsX2_actByLimit wsX2_dropOut := goodIn_r _ [41, 1, 9, 33, 10, 16, 17, 18, 42, 43, 44, 6, 45, 8, 46, 47, 48, 49, 50, 51, 52, 53, 54, 55, 56, 15, 23, 57, 58, 59, 60, 61, 62, 32, 63, 64, 65, 66, 67, 68, 69, 70, 71, 72, 73, 28, 29, 30, 31, 34, 35, 36, 37, 74, 75, 76, 77, 78, 79, 80, 81, 82, 83, 84, 85, 86] (by decide +kernel) (by decide +kernel)
set_option maxRecDepth 20000 in
theorem gX2_actByLimit_X2_dropOut : GoodIn wsX2_actByLimit (wsV RX2 105 RX2 yX2_dropOut wsX2_dropOut) := goodIn_app (goodIn_of _ (by decide +kernel)) ggX2_actByLimit_X2_dropOut
theorem dX2_actByLimit_0 : decode cX2_actByLimit 0 = .ok (.aload_n 0, 1) := by decide +kernel
theorem dX2_actByLimit_1 : decode cX2_actByLimit 1 = .ok (.invokevirtual 74, 3) := by decide +kernel
theorem dX2_actByLimit_4 : decode cX2_actByLimit 4 = .ok (.istore_n 1, 1) := by decide +kernel
theorem dX2_actByLimit_5 : decode cX2_actByLimit 5 = .ok (.aload_n 0, 1) := by decide +kernel
theorem dX2_actByLimit_6 : decode cX2_actByLimit 6 = .ok (.getfield 47, 3) := by decide +kernel
theorem dX2_actByLimit_9 : decode cX2_actByLimit 9 = .ok (.invokestatic 64, 3) := by decide +kernel
theorem dX2_actByLimit_12 : decode cX2_actByLimit 12 = .ok (.ifCond .eq 30, 3) := by decide +kernel
theorem dX2_actByLimit_15 : decode cX2_actByLimit 15 = .ok (.iload_n 1, 1) := by decide +kernel
theorem dX2_actByLimit_16 : decode cX2_actByLimit 16 = .ok (.aload_n 0, 1) := by decide +kernel
theorem dX2_actByLimit_17 : decode cX2_actByLimit 17 = .ok (.getfield 21, 3) := by decide +kernel
theorem dX2_actByLimit_20 : decode cX2_actByLimit 20 = .ok (.aload_n 0, 1) := by decide +kernel
theorem dX2_actByLimit_21 : decode cX2_actByLimit 21 = .ok (.getfield 47, 3) := by decide +kernel
theorem dX2_actByLimit_24 : decode cX2_actByLimit 24 = .ok (.iaload, 1) := by decide +kernel
theorem dX2_actByLimit_25 : decode cX2_actByLimit 25 = .ok (.if_icmp .gt 17, 3) := by decide +kernel
theorem dX2_actByLimit_28 : decode cX2_actByLimit 28 = .ok (.aload_n 0, 1) := by decide +kernel
theorem dX2_actByLimit_29 : decode cX2_actByLimit 29 = .ok (.iload_n 1, 1) := by decide +kernel
theorem dX2_actByLimit_30 : decode cX2_actByLimit 30 = .ok (.invokevirtual 99, 3) := by decide +kernel
theorem dX2_actByLimit_33 : decode cX2_actByLimit 33 = .ok (.ifCond .eq 9, 3) := by decide +kernel
theorem dX2_actByLimit_36 : decode cX2_actByLimit 36 = .ok (.aload_n 0, 1) := by decide +kernel
theorem dX2_actByLimit_37 : decode cX2_actByLimit 37 = .ok (.iload_n 1, 1) := by decide +kernel
theorem dX2_actByLimit_38 : decode cX2_actByLimit 38 = .ok (.invokevirtual 102, 3) := by decide +kernel
theorem dX2_actByLimit_41 : decode cX2_actByLimit 41 = .ok (.ireturn, 1) := by decide +kernel
theorem dX2_actByLimit_42 : decode cX2_actByLimit 42 = .ok (.aload_n 0, 1) := by decide +kernel
theorem dX2_actByLimit_43 : decode cX2_actByLimit 43 = .ok (.invokevirtual 105, 3) := by decide +kernel
theorem dX2_actByLimit_46 : decode cX2_actByLimit 46 = .ok (.ireturn, 1) := by decide +kernel
set_option maxRecDepth 20000 in
theorem ggX2_playRound_X2_start : GoodIn wsX2_playRound wsX2_start := goodIn_r _ [6, 1, 7, 8, 9, 10, 5, 11, 12, 13, 82, 83, 84, 85, 86, 87, 88, 89, 90, 91, 92, 93, 94] (by decide +kernel) (by decide +kernel)
set_option maxRecDepth 20000 in
theorem gX2_playRound_X2_start : GoodIn wsX2_playRound (wsV RX2 108 RX2 yX2_start wsX2_start) := goodIn_app (goodIn_of _ (by decide +kernel)) ggX2_playRound_X2_start
set_option maxRecDepth 20000 in
theorem ggX2_playRound_X2_actByLimit : GoodIn wsX2_playRound wsX2_actByLimit := goodIn_r _ [17, 7, 18, 19, 20, 21, 5, 22, 1, 13, 23, 24, 25, 26, 27, 28, 29, 30, 31, 32, 33, 34, 35, 36, 37, 38, 39, 40, 41, 42, 43, 44, 12, 45, 8, 9, 10, 11, 46, 47, 48, 49, 50, 51, 52, 53, 54, 55, 56, 57, 58, 59, 60, 61, 62, 63, 64, 65, 66, 67, 68, 69, 70, 71, 72, 73, 74, 75, 76, 77, 78, 79, 80, 81, 82, 83, 84, 85, 86, 87, 88, 89, 90, 91, 92, 93, 94] (by decide +kernel) (by decide +kernel)
set_option maxRecDepth 20000 in
theorem gX2_playRound_X2_actByLimit : GoodIn wsX2_playRound (wsV RX2 111 RX2 yX2_actByLimit wsX2_actByLimit) := goodIn_app (goodIn_of _ (by decide +kernel)) ggX2_playRound_X2_actByLimit
theorem dX2_playRound_0 : decode cX2_playRound 0 = .ok (.aload_n 0, 1) := by decide +kernel
theorem dX2_playRound_1 : decode cX2_playRound 1 = .ok (.getfield 43, 3) := by decide +kernel
theorem dX2_playRound_4 : decode cX2_playRound 4 = .ok (.ifCond .ne 8, 3) := by decide +kernel
theorem dX2_playRound_7 : decode cX2_playRound 7 = .ok (.aload_n 0, 1) := by decide +kernel
theorem dX2_playRound_8 : decode cX2_playRound 8 = .ok (.invokevirtual 108, 3) := by decide +kernel
theorem dX2_playRound_11 : decode cX2_playRound 11 = .ok (.pop, 1) := by decide +kernel
theorem dX2_playRound_12 : decode cX2_playRound 12 = .ok (.iconst 0, 1) := by decide +kernel
theorem dX2_playRound_13 : decode cX2_playRound 13 = .ok (.istore_n 1, 1) := by decide +kernel
theorem dX2_playRound_14 : decode cX2_playRound 14 = .ok (.aload_n 0, 1) := by decide +kernel
theorem dX2_playRound_15 : decode cX2_playRound 15 = .ok (.getfield 43, 3) := by decide +kernel
theorem dX2_playRound_18 : decode cX2_playRound 18 = .ok (.ifCond .eq 21, 3) := by decide +kernel
theorem dX2_playRound_21 : decode cX2_playRound 21 = .ok (.iload_n 1, 1) := by decide +kernel
theorem dX2_playRound_22 : decode cX2_playRound 22 = .ok (.sipush 10000, 3) := by decide +kernel
theorem dX2_playRound_25 : decode cX2_playRound 25 = .ok (.if_icmp .ge 14, 3) := by decide +kernel
theorem dX2_playRound_28 : decode cX2_playRound 28 = .ok (.aload_n 0, 1) := by decide +kernel
theorem dX2_playRound_29 : decode cX2_playRound 29 = .ok (.invokevirtual 111, 3) := by decide +kernel
theorem dX2_playRound_32 : decode cX2_playRound 32 = .ok (.pop, 1) := by decide +kernel
theorem dX2_playRound_33 : decode cX2_playRound 33 = .ok (.iinc 1 1, 3) := by decide +kernel
theorem dX2_playRound_36 : decode cX2_playRound 36 = .ok (.goto (-22), 3) := by decide +kernel
theorem dX2_playRound_39 : decode cX2_playRound 39 = .ok (.iload_n 1, 1) := by decide +kernel
theorem dX2_playRound_40 : decode cX2_playRound 40 = .ok (.ireturn, 1) := by decide +kernel
set_option maxRecDepth 20000 in
theorem ggX2_passTurn_X3_isPlayer : GoodIn wsX2_passTurn wsX3_isPlayer := goodIn_r _ [7] (by decide +kernel) (by decide +kernel)
set_option maxRecDepth 20000 in
theorem gX2_passTurn_X3_isPlayer_n64 : GoodIn wsX2_passTurn (wsX3_isPlayer) := ggX2_passTurn_X3_isPlayer
set_option maxRecDepth 20000 in
theorem ggX2_passTurn_X2_playerAt : GoodIn wsX2_passTurn wsX2_playerAt := goodIn_r _ [12, 2, 4, 13, 14, 15, 16, 17, 18, 19, 20, 21, 22, 23, 24, 25] (by decide +kernel) (by decide +kernel)
set_option maxRecDepth 20000 in
theorem gX2_passTurn_X2_playerAt : GoodIn wsX2_passTurn (wsV RX2 77 RX2 yX2_playerAt wsX2_playerAt) := goodIn_app (goodIn_of _ (by decide +kernel)) ggX2_passTurn_X2_playerAt
theorem dX2_passTurn_0 : decode cX2_passTurn 0 = .ok (.aload_n 0, 1) := by decide +kernel
theorem dX2_passTurn_1 : decode cX2_passTurn 1 = .ok (.getfield 47, 3) := by decide +kernel
theorem dX2_passTurn_4 : decode cX2_passTurn 4 = .ok (.invokestatic 64, 3) := by decide +kernel
theorem dX2_passTurn_7 : decode cX2_passTurn 7 = .ok (.ifCond .ne 4, 3) := by decide +kernel
theorem dX2_passTurn_10 : decode cX2_passTurn 10 = .ok (.return_, 1) := by decide +kernel
theorem dX2_passTurn_11 : decode cX2_passTurn 11 = .ok (.aload_n 0, 1) := by decide +kernel
theorem dX2_passTurn_12 : decode cX2_passTurn 12 = .ok (.getfield 24, 3) := by decide +kernel
theorem dX2_passTurn_15 : decode cX2_passTurn 15 = .ok (.aload_n 0, 1) := by decide +kernel
theorem dX2_passTurn_16 : decode cX2_passTurn 16 = .ok (.getfield 47, 3) := by decide +kernel
theorem dX2_passTurn_19 : decode cX2_passTurn 19 = .ok (.iaload, 1) := by decide +kernel
theorem dX2_passTurn_20 : decode cX2_passTurn 20 = .ok (.istore_n 1, 1) := by decide +kernel
theorem dX2_passTurn_21 : decode cX2_passTurn 21 = .ok (.iconst 1, 1) := by decide +kernel
theorem dX2_passTurn_22 : decode cX2_passTurn 22 = .ok (.istore_n 2, 1) := by decide +kernel
theorem dX2_passTurn_23 : decode cX2_passTurn 23 = .ok (.iload_n 2, 1) := by decide +kernel
theorem dX2_passTurn_24 : decode cX2_passTurn 24 = .ok (.iconst 5, 1) := by decide +kernel
theorem dX2_passTurn_25 : decode cX2_passTurn 25 = .ok (.if_icmp .ge 43, 3) := by decide +kernel
theorem dX2_passTurn_28 : decode cX2_passTurn 28 = .ok (.aload_n 0, 1) := by decide +kernel
theorem dX2_passTurn_29 : decode cX2_passTurn 29 = .ok (.iload_n 1, 1) := by decide +kernel
theorem dX2_passTurn_30 : decode cX2_passTurn 30 = .ok (.iload_n 2, 1) := by decide +kernel
theorem dX2_passTurn_31 : decode cX2_passTurn 31 = .ok (.iadd, 1) := by decide +kernel
theorem dX2_passTurn_32 : decode cX2_passTurn 32 = .ok (.iconst 5, 1) := by decide +kernel
theorem dX2_passTurn_33 : decode cX2_passTurn 33 = .ok (.irem, 1) := by decide +kernel
theorem dX2_passTurn_34 : decode cX2_passTurn 34 = .ok (.invokevirtual 77, 3) := by decide +kernel
theorem dX2_passTurn_37 : decode cX2_passTurn 37 = .ok (.istore_n 3, 1) := by decide +kernel
theorem dX2_passTurn_38 : decode cX2_passTurn 38 = .ok (.iload_n 3, 1) := by decide +kernel
theorem dX2_passTurn_39 : decode cX2_passTurn 39 = .ok (.invokestatic 64, 3) := by decide +kernel
theorem dX2_passTurn_42 : decode cX2_passTurn 42 = .ok (.ifCond .eq 20, 3) := by decide +kernel
theorem dX2_passTurn_45 : decode cX2_passTurn 45 = .ok (.aload_n 0, 1) := by decide +kernel
theorem dX2_passTurn_46 : decode cX2_passTurn 46 = .ok (.getfield 31, 3) := by decide +kernel
theorem dX2_passTurn_49 : decode cX2_passTurn 49 = .ok (.iload_n 3, 1) := by decide +kernel
theorem dX2_passTurn_50 : decode cX2_passTurn 50 = .ok (.iaload, 1) := by decide +kernel
theorem dX2_passTurn_51 : decode cX2_passTurn 51 = .ok (.ldc 27, 2) := by decide +kernel
theorem dX2_passTurn_53 : decode cX2_passTurn 53 = .ok (.if_icmp .ne 9, 3) := by decide +kernel
theorem dX2_passTurn_56 : decode cX2_passTurn 56 = .ok (.aload_n 0, 1) := by decide +kernel
theorem dX2_passTurn_57 : decode cX2_passTurn 57 = .ok (.iload_n 3, 1) := by decide +kernel
theorem dX2_passTurn_58 : decode cX2_passTurn 58 = .ok (.putfield 47, 3) := by decide +kernel
theorem dX2_passTurn_61 : decode cX2_passTurn 61 = .ok (.return_, 1) := by decide +kernel
theorem dX2_passTurn_62 : decode cX2_passTurn 62 = .ok (.iinc 2 1, 3) := by decide +kernel
theorem dX2_passTurn_65 : decode cX2_passTurn 65 = .ok (.goto (-42), 3) := by decide +kernel
theorem dX2_passTurn_68 : decode cX2_passTurn 68 = .ok (.return_, 1) := by decide +kernel
set_option maxRecDepth 20000 in
theorem ggX2_pay_X3_isPlayer : GoodIn wsX2_pay wsX3_isPlayer := goodIn_r _ [7] (by decide +kernel) (by decide +kernel)
set_option maxRecDepth 20000 in
theorem gX2_pay_X3_isPlayer_n64 : GoodIn wsX2_pay (wsX3_isPlayer) := ggX2_pay_X3_isPlayer
theorem dX2_pay_0 : decode cX2_pay 0 = .ok (.iload_n 1, 1) := by decide +kernel
theorem dX2_pay_1 : decode cX2_pay 1 = .ok (.invokestatic 64, 3) := by decide +kernel
theorem dX2_pay_4 : decode cX2_pay 4 = .ok (.ifCond .eq 14, 3) := by decide +kernel
theorem dX2_pay_7 : decode cX2_pay 7 = .ok (.aload_n 0, 1) := by decide +kernel
theorem dX2_pay_8 : decode cX2_pay 8 = .ok (.getfield 28, 3) := by decide +kernel
theorem dX2_pay_11 : decode cX2_pay 11 = .ok (.iload_n 1, 1) := by decide +kernel
theorem dX2_pay_12 : decode cX2_pay 12 = .ok (.iaload, 1) := by decide +kernel
theorem dX2_pay_13 : decode cX2_pay 13 = .ok (.ldc 27, 2) := by decide +kernel
theorem dX2_pay_15 : decode cX2_pay 15 = .ok (.if_icmp .ne 4, 3) := by decide +kernel
theorem dX2_pay_18 : decode cX2_pay 18 = .ok (.return_, 1) := by decide +kernel
theorem dX2_pay_19 : decode cX2_pay 19 = .ok (.aload_n 0, 1) := by decide +kernel
theorem dX2_pay_20 : decode cX2_pay 20 = .ok (.getfield 28, 3) := by decide +kernel
theorem dX2_pay_23 : decode cX2_pay 23 = .ok (.iload_n 1, 1) := by decide +kernel
theorem dX2_pay_24 : decode cX2_pay 24 = .ok (.iaload, 1) := by decide +kernel
theorem dX2_pay_25 : decode cX2_pay 25 = .ok (.iload_n 2, 1) := by decide +kernel
theorem dX2_pay_26 : decode cX2_pay 26 = .ok (.imul, 1) := by decide +kernel
theorem dX2_pay_27 : decode cX2_pay 27 = .ok (.iload_n 3, 1) := by decide +kernel
theorem dX2_pay_28 : decode cX2_pay 28 = .ok (.iadd, 1) := by decide +kernel
theorem dX2_pay_29 : decode cX2_pay 29 = .ok (.bipush 100, 2) := by decide +kernel
theorem dX2_pay_31 : decode cX2_pay 31 = .ok (.idiv, 1) := by decide +kernel
theorem dX2_pay_32 : decode cX2_pay 32 = .ok (.istore 4, 2) := by decide +kernel
theorem dX2_pay_34 : decode cX2_pay 34 = .ok (.aload_n 0, 1) := by decide +kernel
theorem dX2_pay_35 : decode cX2_pay 35 = .ok (.getfield 18, 3) := by decide +kernel
theorem dX2_pay_38 : decode cX2_pay 38 = .ok (.iload_n 1, 1) := by decide +kernel
theorem dX2_pay_39 : decode cX2_pay 39 = .ok (.dup2, 1) := by decide +kernel
theorem dX2_pay_40 : decode cX2_pay 40 = .ok (.iaload, 1) := by decide +kernel
theorem dX2_pay_41 : decode cX2_pay 41 = .ok (.iload 4, 2) := by decide +kernel
theorem dX2_pay_43 : decode cX2_pay 43 = .ok (.isub, 1) := by decide +kernel
theorem dX2_pay_44 : decode cX2_pay 44 = .ok (.iastore, 1) := by decide +kernel
theorem dX2_pay_45 : decode cX2_pay 45 = .ok (.aload_n 0, 1) := by decide +kernel
theorem dX2_pay_46 : decode cX2_pay 46 = .ok (.getfield 34, 3) := by decide +kernel
theorem dX2_pay_49 : decode cX2_pay 49 = .ok (.iload_n 1, 1) := by decide +kernel
theorem dX2_pay_50 : decode cX2_pay 50 = .ok (.dup2, 1) := by decide +kernel
theorem dX2_pay_51 : decode cX2_pay 51 = .ok (.iaload, 1) := by decide +kernel
theorem dX2_pay_52 : decode cX2_pay 52 = .ok (.iload 4, 2) := by decide +kernel
theorem dX2_pay_54 : decode cX2_pay 54 = .ok (.iadd, 1) := by decide +kernel
theorem dX2_pay_55 : decode cX2_pay 55 = .ok (.iastore, 1) := by decide +kernel
theorem dX2_pay_56 : decode cX2_pay 56 = .ok (.return_, 1) := by decide +kernel
set_option maxRecDepth 20000 in
theorem ggX2_endAuction_X2_pay : GoodIn wsX2_endAuction wsX2_pay := goodIn_r _ [20, 12, 2, 6, 21, 22, 23, 24, 30, 31, 32, 33, 34, 35, 36, 37, 38, 39, 40, 41, 42] (by decide +kernel) (by decide +kernel)
set_option maxRecDepth 20000 in
theorem gX2_endAuction_X2_pay : GoodIn wsX2_endAuction (wsV RX2 92 RX2 yX2_pay wsX2_pay) := goodIn_app (goodIn_of _ (by decide +kernel)) ggX2_endAuction_X2_pay
set_option maxRecDepth 20000 in
theorem ggX2_endAuction_X2_prizeFor : GoodIn wsX2_endAuction wsX2_prizeFor := goodIn_r _ [28, 29, 30, 31, 32, 33, 34, 35, 36, 37, 38, 39, 40, 41, 42] (by decide +kernel) (by decide +kernel)
set_option maxRecDepth 20000 in
theorem gX2_endAuction_X2_prizeFor : GoodIn wsX2_endAuction (wsV RX2 114 RX2 yX2_prizeFor wsX2_prizeFor) := goodIn_app (goodIn_of _ (by decide +kernel)) ggX2_endAuction_X2_prizeFor
theorem dX2_endAuction_0 : decode cX2_endAuction 0 = .ok (.iconst 0, 1) := by decide +kernel
theorem dX2_endAuction_1 : decode cX2_endAuction 1 = .ok (.istore_n 1, 1) := by decide +kernel
theorem dX2_endAuction_2 : decode cX2_endAuction 2 = .ok (.iload_n 1, 1) := by decide +kernel
theorem dX2_endAuction_3 : decode cX2_endAuction 3 = .ok (.iconst 5, 1) := by decide +kernel
theorem dX2_endAuction_4 : decode cX2_endAuction 4 = .ok (.if_icmp .ge 119, 3) := by decide +kernel
theorem dX2_endAuction_7 : decode cX2_endAuction 7 = .ok (.aload_n 0, 1) := by decide +kernel
theorem dX2_endAuction_8 : decode cX2_endAuction 8 = .ok (.getfield 31, 3) := by decide +kernel
theorem dX2_endAuction_11 : decode cX2_endAuction 11 = .ok (.iload_n 1, 1) := by decide +kernel
theorem dX2_endAuction_12 : decode cX2_endAuction 12 = .ok (.iaload, 1) := by decide +kernel
theorem dX2_endAuction_13 : decode cX2_endAuction 13 = .ok (.ldc 27, 2) := by decide +kernel
theorem dX2_endAuction_15 : decode cX2_endAuction 15 = .ok (.if_icmp .ne 33, 3) := by decide +kernel
theorem dX2_endAuction_18 : decode cX2_endAuction 18 = .ok (.aload_n 0, 1) := by decide +kernel
theorem dX2_endAuction_19 : decode cX2_endAuction 19 = .ok (.getfield 31, 3) := by decide +kernel
theorem dX2_endAuction_22 : decode cX2_endAuction 22 = .ok (.iload_n 1, 1) := by decide +kernel
theorem dX2_endAuction_23 : decode cX2_endAuction 23 = .ok (.iconst 0, 1) := by decide +kernel
theorem dX2_endAuction_24 : decode cX2_endAuction 24 = .ok (.iastore, 1) := by decide +kernel
theorem dX2_endAuction_25 : decode cX2_endAuction 25 = .ok (.aload_n 0, 1) := by decide +kernel
theorem dX2_endAuction_26 : decode cX2_endAuction 26 = .ok (.getfield 40, 3) := by decide +kernel
theorem dX2_endAuction_29 : decode cX2_endAuction 29 = .ok (.iload_n 1, 1) := by decide +kernel
theorem dX2_endAuction_30 : decode cX2_endAuction 30 = .ok (.dup2, 1) := by decide +kernel
theorem dX2_endAuction_31 : decode cX2_endAuction 31 = .ok (.iaload, 1) := by decide +kernel
theorem dX2_endAuction_32 : decode cX2_endAuction 32 = .ok (.iconst 1, 1) := by decide +kernel
theorem dX2_endAuction_33 : decode cX2_endAuction 33 = .ok (.iadd, 1) := by decide +kernel
theorem dX2_endAuction_34 : decode cX2_endAuction 34 = .ok (.iastore, 1) := by decide +kernel
theorem dX2_endAuction_35 : decode cX2_endAuction 35 = .ok (.aload_n 0, 1) := by decide +kernel
theorem dX2_endAuction_36 : decode cX2_endAuction 36 = .ok (.iload_n 1, 1) := by decide +kernel
theorem dX2_endAuction_37 : decode cX2_endAuction 37 = .ok (.aload_n 0, 1) := by decide +kernel
theorem dX2_endAuction_38 : decode cX2_endAuction 38 = .ok (.getfield 9, 3) := by decide +kernel
theorem dX2_endAuction_41 : decode cX2_endAuction 41 = .ok (.iconst 2, 1) := by decide +kernel
theorem dX2_endAuction_42 : decode cX2_endAuction 42 = .ok (.iaload, 1) := by decide +kernel
theorem dX2_endAuction_43 : decode cX2_endAuction 43 = .ok (.bipush 99, 2) := by decide +kernel
theorem dX2_endAuction_45 : decode cX2_endAuction 45 = .ok (.invokevirtual 92, 3) := by decide +kernel
theorem dX2_endAuction_48 : decode cX2_endAuction 48 = .ok (.aload_n 0, 1) := by decide +kernel
theorem dX2_endAuction_49 : decode cX2_endAuction 49 = .ok (.getfield 24, 3) := by decide +kernel
theorem dX2_endAuction_52 : decode cX2_endAuction 52 = .ok (.iload_n 1, 1) := by decide +kernel
theorem dX2_endAuction_53 : decode cX2_endAuction 53 = .ok (.aload_n 0, 1) := by decide +kernel
theorem dX2_endAuction_54 : decode cX2_endAuction 54 = .ok (.getfield 31, 3) := by decide +kernel
theorem dX2_endAuction_57 : decode cX2_endAuction 57 = .ok (.iload_n 1, 1) := by decide +kernel
theorem dX2_endAuction_58 : decode cX2_endAuction 58 = .ok (.iaload, 1) := by decide +kernel
theorem dX2_endAuction_59 : decode cX2_endAuction 59 = .ok (.iastore, 1) := by decide +kernel
theorem dX2_endAuction_60 : decode cX2_endAuction 60 = .ok (.aload_n 0, 1) := by decide +kernel
theorem dX2_endAuction_61 : decode cX2_endAuction 61 = .ok (.aload_n 0, 1) := by decide +kernel
theorem dX2_endAuction_62 : decode cX2_endAuction 62 = .ok (.getfield 24, 3) := by decide +kernel
theorem dX2_endAuction_65 : decode cX2_endAuction 65 = .ok (.iload_n 1, 1) := by decide +kernel
theorem dX2_endAuction_66 : decode cX2_endAuction 66 = .ok (.iaload, 1) := by decide +kernel
theorem dX2_endAuction_67 : decode cX2_endAuction 67 = .ok (.invokevirtual 114, 3) := by decide +kernel
theorem dX2_endAuction_70 : decode cX2_endAuction 70 = .ok (.istore_n 2, 1) := by decide +kernel
theorem dX2_endAuction_71 : decode cX2_endAuction 71 = .ok (.aload_n 0, 1) := by decide +kernel
theorem dX2_endAuction_72 : decode cX2_endAuction 72 = .ok (.getfield 18, 3) := by decide +kernel
theorem dX2_endAuction_75 : decode cX2_endAuction 75 = .ok (.iload_n 1, 1) := by decide +kernel
theorem dX2_endAuction_76 : decode cX2_endAuction 76 = .ok (.aload_n 0, 1) := by decide +kernel
theorem dX2_endAuction_77 : decode cX2_endAuction 77 = .ok (.getfield 18, 3) := by decide +kernel
theorem dX2_endAuction_80 : decode cX2_endAuction 80 = .ok (.iload_n 1, 1) := by decide +kernel
theorem dX2_endAuction_81 : decode cX2_endAuction 81 = .ok (.iaload, 1) := by decide +kernel
theorem dX2_endAuction_82 : decode cX2_endAuction 82 = .ok (.iload_n 2, 1) := by decide +kernel
theorem dX2_endAuction_83 : decode cX2_endAuction 83 = .ok (.iadd, 1) := by decide +kernel
theorem dX2_endAuction_84 : decode cX2_endAuction 84 = .ok (.sipush 9999, 3) := by decide +kernel
theorem dX2_endAuction_87 : decode cX2_endAuction 87 = .ok (.invokestatic 117, 3) := by decide +kernel
theorem dX2_endAuction_90 : decode cX2_endAuction 90 = .ok (.iastore, 1) := by decide +kernel
theorem dX2_endAuction_91 : decode cX2_endAuction 91 = .ok (.aload_n 0, 1) := by decide +kernel
theorem dX2_endAuction_92 : decode cX2_endAuction 92 = .ok (.getfield 37, 3) := by decide +kernel
theorem dX2_endAuction_95 : decode cX2_endAuction 95 = .ok (.iload_n 1, 1) := by decide +kernel
theorem dX2_endAuction_96 : decode cX2_endAuction 96 = .ok (.dup2, 1) := by decide +kernel
theorem dX2_endAuction_97 : decode cX2_endAuction 97 = .ok (.iaload, 1) := by decide +kernel
theorem dX2_endAuction_98 : decode cX2_endAuction 98 = .ok (.iload_n 2, 1) := by decide +kernel
theorem dX2_endAuction_99 : decode cX2_endAuction 99 = .ok (.iadd, 1) := by decide +kernel
theorem dX2_endAuction_100 : decode cX2_endAuction 100 = .ok (.iastore, 1) := by decide +kernel
theorem dX2_endAuction_101 : decode cX2_endAuction 101 = .ok (.aload_n 0, 1) := by decide +kernel
theorem dX2_endAuction_102 : decode cX2_endAuction 102 = .ok (.getfield 31, 3) := by decide +kernel
theorem dX2_endAuction_105 : decode cX2_endAuction 105 = .ok (.iload_n 1, 1) := by decide +kernel
theorem dX2_endAuction_106 : decode cX2_endAuction 106 = .ok (.ldc 27, 2) := by decide +kernel
theorem dX2_endAuction_108 : decode cX2_endAuction 108 = .ok (.iastore, 1) := by decide +kernel
theorem dX2_endAuction_109 : decode cX2_endAuction 109 = .ok (.aload_n 0, 1) := by decide +kernel
theorem dX2_endAuction_110 : decode cX2_endAuction 110 = .ok (.getfield 28, 3) := by decide +kernel
theorem dX2_endAuction_113 : decode cX2_endAuction 113 = .ok (.iload_n 1, 1) := by decide +kernel
theorem dX2_endAuction_114 : decode cX2_endAuction 114 = .ok (.ldc 27, 2) := by decide +kernel
theorem dX2_endAuction_116 : decode cX2_endAuction 116 = .ok (.iastore, 1) := by decide +kernel
theorem dX2_endAuction_117 : decode cX2_endAuction 117 = .ok (.iinc 1 1, 3) := by decide +kernel
theorem dX2_endAuction_120 : decode cX2_endAuction 120 = .ok (.goto (-118), 3) := by decide +kernel
theorem dX2_endAuction_123 : decode cX2_endAuction 123 = .ok (.aload_n 0, 1) := by decide +kernel
theorem dX2_endAuction_124 : decode cX2_endAuction 124 = .ok (.iconst 0, 1) := by decide +kernel
theorem dX2_endAuction_125 : decode cX2_endAuction 125 = .ok (.putfield 43, 3) := by decide +kernel
theorem dX2_endAuction_128 : decode cX2_endAuction 128 = .ok (.aload_n 0, 1) := by decide +kernel
theorem dX2_endAuction_129 : decode cX2_endAuction 129 = .ok (.ldc 27, 2) := by decide +kernel
theorem dX2_endAuction_131 : decode cX2_endAuction 131 = .ok (.putfield 47, 3) := by decide +kernel
theorem dX2_endAuction_134 : decode cX2_endAuction 134 = .ok (.aload_n 0, 1) := by decide +kernel
theorem dX2_endAuction_135 : decode cX2_endAuction 135 = .ok (.dup, 1) := by decide +kernel
theorem dX2_endAuction_136 : decode cX2_endAuction 136 = .ok (.getfield 51, 3) := by decide +kernel
theorem dX2_endAuction_139 : decode cX2_endAuction 139 = .ok (.iconst 1, 1) := by decide +kernel
theorem dX2_endAuction_140 : decode cX2_endAuction 140 = .ok (.iadd, 1) := by decide +kernel
theorem dX2_endAuction_141 : decode cX2_endAuction 141 = .ok (.putfield 51, 3) := by decide +kernel
theorem dX2_endAuction_144 : decode cX2_endAuction 144 = .ok (.return_, 1) := by decide +kernel
theorem dX2_prizeFor_0 : decode cX2_prizeFor 0 = .ok (.iconst 0, 1) := by decide +kernel
theorem dX2_prizeFor_1 : decode cX2_prizeFor 1 = .ok (.istore_n 2, 1) := by decide +kernel
theorem dX2_prizeFor_2 : decode cX2_prizeFor 2 = .ok (.iload_n 2, 1) := by decide +kernel
theorem dX2_prizeFor_3 : decode cX2_prizeFor 3 = .ok (.iconst 5, 1) := by decide +kernel
theorem dX2_prizeFor_4 : decode cX2_prizeFor 4 = .ok (.if_icmp .ge 79, 3) := by decide +kernel
theorem dX2_prizeFor_7 : decode cX2_prizeFor 7 = .ok (.iconst 0, 1) := by decide +kernel
theorem dX2_prizeFor_8 : decode cX2_prizeFor 8 = .ok (.istore_n 3, 1) := by decide +kernel
theorem dX2_prizeFor_9 : decode cX2_prizeFor 9 = .ok (.iconst 0, 1) := by decide +kernel
theorem dX2_prizeFor_10 : decode cX2_prizeFor 10 = .ok (.istore 4, 2) := by decide +kernel
theorem dX2_prizeFor_12 : decode cX2_prizeFor 12 = .ok (.iload 4, 2) := by decide +kernel
theorem dX2_prizeFor_14 : decode cX2_prizeFor 14 = .ok (.iconst 5, 1) := by decide +kernel
theorem dX2_prizeFor_15 : decode cX2_prizeFor 15 = .ok (.if_icmp .ge 50, 3) := by decide +kernel
theorem dX2_prizeFor_18 : decode cX2_prizeFor 18 = .ok (.aload_n 0, 1) := by decide +kernel
theorem dX2_prizeFor_19 : decode cX2_prizeFor 19 = .ok (.getfield 15, 3) := by decide +kernel
theorem dX2_prizeFor_22 : decode cX2_prizeFor 22 = .ok (.iload 4, 2) := by decide +kernel
theorem dX2_prizeFor_24 : decode cX2_prizeFor 24 = .ok (.iaload, 1) := by decide +kernel
theorem dX2_prizeFor_25 : decode cX2_prizeFor 25 = .ok (.aload_n 0, 1) := by decide +kernel
theorem dX2_prizeFor_26 : decode cX2_prizeFor 26 = .ok (.getfield 15, 3) := by decide +kernel
theorem dX2_prizeFor_29 : decode cX2_prizeFor 29 = .ok (.iload_n 2, 1) := by decide +kernel
theorem dX2_prizeFor_30 : decode cX2_prizeFor 30 = .ok (.iaload, 1) := by decide +kernel
theorem dX2_prizeFor_31 : decode cX2_prizeFor 31 = .ok (.if_icmp .gt 25, 3) := by decide +kernel
theorem dX2_prizeFor_34 : decode cX2_prizeFor 34 = .ok (.aload_n 0, 1) := by decide +kernel
theorem dX2_prizeFor_35 : decode cX2_prizeFor 35 = .ok (.getfield 15, 3) := by decide +kernel
theorem dX2_prizeFor_38 : decode cX2_prizeFor 38 = .ok (.iload 4, 2) := by decide +kernel
theorem dX2_prizeFor_40 : decode cX2_prizeFor 40 = .ok (.iaload, 1) := by decide +kernel
theorem dX2_prizeFor_41 : decode cX2_prizeFor 41 = .ok (.aload_n 0, 1) := by decide +kernel
theorem dX2_prizeFor_42 : decode cX2_prizeFor 42 = .ok (.getfield 15, 3) := by decide +kernel
theorem dX2_prizeFor_45 : decode cX2_prizeFor 45 = .ok (.iload_n 2, 1) := by decide +kernel
theorem dX2_prizeFor_46 : decode cX2_prizeFor 46 = .ok (.iaload, 1) := by decide +kernel
theorem dX2_prizeFor_47 : decode cX2_prizeFor 47 = .ok (.if_icmp .ne 12, 3) := by decide +kernel
theorem dX2_prizeFor_50 : decode cX2_prizeFor 50 = .ok (.iload 4, 2) := by decide +kernel
theorem dX2_prizeFor_52 : decode cX2_prizeFor 52 = .ok (.iload_n 2, 1) := by decide +kernel
theorem dX2_prizeFor_53 : decode cX2_prizeFor 53 = .ok (.if_icmp .ge 6, 3) := by decide +kernel
theorem dX2_prizeFor_56 : decode cX2_prizeFor 56 = .ok (.iinc 3 1, 3) := by decide +kernel
theorem dX2_prizeFor_59 : decode cX2_prizeFor 59 = .ok (.iinc 4 1, 3) := by decide +kernel
theorem dX2_prizeFor_62 : decode cX2_prizeFor 62 = .ok (.goto (-50), 3) := by decide +kernel
theorem dX2_prizeFor_65 : decode cX2_prizeFor 65 = .ok (.iload_n 3, 1) := by decide +kernel
theorem dX2_prizeFor_66 : decode cX2_prizeFor 66 = .ok (.iload_n 1, 1) := by decide +kernel
theorem dX2_prizeFor_67 : decode cX2_prizeFor 67 = .ok (.if_icmp .ne 10, 3) := by decide +kernel
theorem dX2_prizeFor_70 : decode cX2_prizeFor 70 = .ok (.aload_n 0, 1) := by decide +kernel
theorem dX2_prizeFor_71 : decode cX2_prizeFor 71 = .ok (.getfield 15, 3) := by decide +kernel
theorem dX2_prizeFor_74 : decode cX2_prizeFor 74 = .ok (.iload_n 2, 1) := by decide +kernel
theorem dX2_prizeFor_75 : decode cX2_prizeFor 75 = .ok (.iaload, 1) := by decide +kernel
theorem dX2_prizeFor_76 : decode cX2_prizeFor 76 = .ok (.ireturn, 1) := by decide +kernel
theorem dX2_prizeFor_77 : decode cX2_prizeFor 77 = .ok (.iinc 2 1, 3) := by decide +kernel
theorem dX2_prizeFor_80 : decode cX2_prizeFor 80 = .ok (.goto (-78), 3) := by decide +kernel
theorem dX2_prizeFor_83 : decode cX2_prizeFor 83 = .ok (.iconst 0, 1) := by decide +kernel
theorem dX2_prizeFor_84 : decode cX2_prizeFor 84 = .ok (.ireturn, 1) := by decide +kernel
