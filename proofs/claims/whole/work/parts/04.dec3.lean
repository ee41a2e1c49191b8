set_option maxRecDepth 20000 in
theorem ggX4_init_X4_clearAuction : GoodIn wsX4_init wsX4_clearAuction := goodIn_r _ [17, 5, 18, 19, 20, 21, 22, 23, 24, 25, 26, 27, 28, 29] (by decide +kernel) (by decide +kernel)
set_option maxRecDepth 20000 in
theorem gX4_init_X4_clearAuction : GoodIn wsX4_init (wsV RX4 32 RX4 yX4_clearAuction wsX4_clearAuction) := goodIn_app (goodIn_of _ (by decide +kernel)) ggX4_init_X4_clearAuction
theorem dX4_init_0 : decode cX4_init 0 = .ok (.aload_n 0, 1) := by decide +kernel
theorem dX4_init_1 : decode cX4_init 1 = .ok (.invokespecial 1, 3) := by decide +kernel
theorem dX4_init_4 : decode cX4_init 4 = .ok (.aload_n 0, 1) := by decide +kernel
theorem dX4_init_5 : decode cX4_init 5 = .ok (.bipush 53, 2) := by decide +kernel
theorem dX4_init_7 : decode cX4_init 7 = .ok (.newarray .int, 2) := by decide +kernel
theorem dX4_init_9 : decode cX4_init 9 = .ok (.putfield 7, 3) := by decide +kernel
theorem dX4_init_12 : decode cX4_init 12 = .ok (.aload_n 0, 1) := by decide +kernel
theorem dX4_init_13 : decode cX4_init 13 = .ok (.bipush 53, 2) := by decide +kernel
theorem dX4_init_15 : decode cX4_init 15 = .ok (.newarray .int, 2) := by decide +kernel
theorem dX4_init_17 : decode cX4_init 17 = .ok (.putfield 13, 3) := by decide +kernel
theorem dX4_init_20 : decode cX4_init 20 = .ok (.aload_n 0, 1) := by decide +kernel
theorem dX4_init_21 : decode cX4_init 21 = .ok (.sipush 318, 3) := by decide +kernel
theorem dX4_init_24 : decode cX4_init 24 = .ok (.newarray .int, 2) := by decide +kernel
theorem dX4_init_26 : decode cX4_init 26 = .ok (.putfield 16, 3) := by decide +kernel
theorem dX4_init_29 : decode cX4_init 29 = .ok (.aload_n 0, 1) := by decide +kernel
theorem dX4_init_30 : decode cX4_init 30 = .ok (.bipush 106, 2) := by decide +kernel
theorem dX4_init_32 : decode cX4_init 32 = .ok (.newarray .int, 2) := by decide +kernel
theorem dX4_init_34 : decode cX4_init 34 = .ok (.putfield 19, 3) := by decide +kernel
theorem dX4_init_37 : decode cX4_init 37 = .ok (.aload_n 0, 1) := by decide +kernel
theorem dX4_init_38 : decode cX4_init 38 = .ok (.iconst 2, 1) := by decide +kernel
theorem dX4_init_39 : decode cX4_init 39 = .ok (.newarray .boolean, 2) := by decide +kernel
theorem dX4_init_41 : decode cX4_init 41 = .ok (.putfield 22, 3) := by decide +kernel
theorem dX4_init_44 : decode cX4_init 44 = .ok (.aload_n 0, 1) := by decide +kernel
theorem dX4_init_45 : decode cX4_init 45 = .ok (.bipush 60, 2) := by decide +kernel
theorem dX4_init_47 : decode cX4_init 47 = .ok (.newarray .int, 2) := by decide +kernel
theorem dX4_init_49 : decode cX4_init 49 = .ok (.putfield 26, 3) := by decide +kernel
theorem dX4_init_52 : decode cX4_init 52 = .ok (.aload_n 0, 1) := by decide +kernel
theorem dX4_init_53 : decode cX4_init 53 = .ok (.bipush 31, 2) := by decide +kernel
theorem dX4_init_55 : decode cX4_init 55 = .ok (.newarray .int, 2) := by decide +kernel
theorem dX4_init_57 : decode cX4_init 57 = .ok (.putfield 29, 3) := by decide +kernel
theorem dX4_init_60 : decode cX4_init 60 = .ok (.aload_n 0, 1) := by decide +kernel
theorem dX4_init_61 : decode cX4_init 61 = .ok (.getfield 7, 3) := by decide +kernel
theorem dX4_init_64 : decode cX4_init 64 = .ok (.iconst 0, 1) := by decide +kernel
theorem dX4_init_65 : decode cX4_init 65 = .ok (.iconst 1, 1) := by decide +kernel
theorem dX4_init_66 : decode cX4_init 66 = .ok (.iastore, 1) := by decide +kernel
theorem dX4_init_67 : decode cX4_init 67 = .ok (.aload_n 0, 1) := by decide +kernel
theorem dX4_init_68 : decode cX4_init 68 = .ok (.getfield 7, 3) := by decide +kernel
theorem dX4_init_71 : decode cX4_init 71 = .ok (.iconst 1, 1) := by decide +kernel
theorem dX4_init_72 : decode cX4_init 72 = .ok (.iconst 1, 1) := by decide +kernel
theorem dX4_init_73 : decode cX4_init 73 = .ok (.iastore, 1) := by decide +kernel
theorem dX4_init_74 : decode cX4_init 74 = .ok (.aload_n 0, 1) := by decide +kernel
theorem dX4_init_75 : decode cX4_init 75 = .ok (.getfield 7, 3) := by decide +kernel
theorem dX4_init_78 : decode cX4_init 78 = .ok (.iconst 2, 1) := by decide +kernel
theorem dX4_init_79 : decode cX4_init 79 = .ok (.bipush 50, 2) := by decide +kernel
theorem dX4_init_81 : decode cX4_init 81 = .ok (.iastore, 1) := by decide +kernel
theorem dX4_init_82 : decode cX4_init 82 = .ok (.iconst 0, 1) := by decide +kernel
theorem dX4_init_83 : decode cX4_init 83 = .ok (.istore_n 1, 1) := by decide +kernel
theorem dX4_init_84 : decode cX4_init 84 = .ok (.iload_n 1, 1) := by decide +kernel
theorem dX4_init_85 : decode cX4_init 85 = .ok (.iconst 5, 1) := by decide +kernel
theorem dX4_init_86 : decode cX4_init 86 = .ok (.if_icmp .ge 53, 3) := by decide +kernel
theorem dX4_init_89 : decode cX4_init 89 = .ok (.aload_n 0, 1) := by decide +kernel
theorem dX4_init_90 : decode cX4_init 90 = .ok (.getfield 7, 3) := by decide +kernel
theorem dX4_init_93 : decode cX4_init 93 = .ok (.bipush 8, 2) := by decide +kernel
theorem dX4_init_95 : decode cX4_init 95 = .ok (.iload_n 1, 1) := by decide +kernel
theorem dX4_init_96 : decode cX4_init 96 = .ok (.iadd, 1) := by decide +kernel
theorem dX4_init_97 : decode cX4_init 97 = .ok (.bipush 20, 2) := by decide +kernel
theorem dX4_init_99 : decode cX4_init 99 = .ok (.iastore, 1) := by decide +kernel
theorem dX4_init_100 : decode cX4_init 100 = .ok (.aload_n 0, 1) := by decide +kernel
theorem dX4_init_101 : decode cX4_init 101 = .ok (.getfield 7, 3) := by decide +kernel
theorem dX4_init_104 : decode cX4_init 104 = .ok (.bipush 13, 2) := by decide +kernel
theorem dX4_init_106 : decode cX4_init 106 = .ok (.iload_n 1, 1) := by decide +kernel
theorem dX4_init_107 : decode cX4_init 107 = .ok (.iadd, 1) := by decide +kernel
theorem dX4_init_108 : decode cX4_init 108 = .ok (.bipush 10, 2) := by decide +kernel
theorem dX4_init_110 : decode cX4_init 110 = .ok (.iastore, 1) := by decide +kernel
theorem dX4_init_111 : decode cX4_init 111 = .ok (.aload_n 0, 1) := by decide +kernel
theorem dX4_init_112 : decode cX4_init 112 = .ok (.getfield 7, 3) := by decide +kernel
theorem dX4_init_115 : decode cX4_init 115 = .ok (.bipush 18, 2) := by decide +kernel
theorem dX4_init_117 : decode cX4_init 117 = .ok (.iload_n 1, 1) := by decide +kernel
theorem dX4_init_118 : decode cX4_init 118 = .ok (.iadd, 1) := by decide +kernel
theorem dX4_init_119 : decode cX4_init 119 = .ok (.iload_n 1, 1) := by decide +kernel
theorem dX4_init_120 : decode cX4_init 120 = .ok (.iastore, 1) := by decide +kernel
theorem dX4_init_121 : decode cX4_init 121 = .ok (.aload_n 0, 1) := by decide +kernel
theorem dX4_init_122 : decode cX4_init 122 = .ok (.getfield 7, 3) := by decide +kernel
theorem dX4_init_125 : decode cX4_init 125 = .ok (.bipush 48, 2) := by decide +kernel
theorem dX4_init_127 : decode cX4_init 127 = .ok (.iload_n 1, 1) := by decide +kernel
theorem dX4_init_128 : decode cX4_init 128 = .ok (.iadd, 1) := by decide +kernel
theorem dX4_init_129 : decode cX4_init 129 = .ok (.iconst 5, 1) := by decide +kernel
theorem dX4_init_130 : decode cX4_init 130 = .ok (.iload_n 1, 1) := by decide +kernel
theorem dX4_init_131 : decode cX4_init 131 = .ok (.isub, 1) := by decide +kernel
theorem dX4_init_132 : decode cX4_init 132 = .ok (.iastore, 1) := by decide +kernel
theorem dX4_init_133 : decode cX4_init 133 = .ok (.iinc 1 1, 3) := by decide +kernel
theorem dX4_init_136 : decode cX4_init 136 = .ok (.goto (-52), 3) := by decide +kernel
theorem dX4_init_139 : decode cX4_init 139 = .ok (.aload_n 0, 1) := by decide +kernel
theorem dX4_init_140 : decode cX4_init 140 = .ok (.invokevirtual 32, 3) := by decide +kernel
theorem dX4_init_143 : decode cX4_init 143 = .ok (.return_, 1) := by decide +kernel
theorem dX4_in_0 : decode cX4_in 0 = .ok (.iload_n 0, 1) := by decide +kernel
theorem dX4_in_1 : decode cX4_in 1 = .ok (.iload_n 1, 1) := by decide +kernel
theorem dX4_in_2 : decode cX4_in 2 = .ok (.if_icmp .lt 12, 3) := by decide +kernel
theorem dX4_in_5 : decode cX4_in 5 = .ok (.iload_n 0, 1) := by decide +kernel
theorem dX4_in_6 : decode cX4_in 6 = .ok (.iload_n 2, 1) := by decide +kernel
theorem dX4_in_7 : decode cX4_in 7 = .ok (.if_icmp .gt 7, 3) := by decide +kernel
theorem dX4_in_10 : decode cX4_in 10 = .ok (.iconst 1, 1) := by decide +kernel
theorem dX4_in_11 : decode cX4_in 11 = .ok (.goto 4, 3) := by decide +kernel
theorem dX4_in_14 : decode cX4_in 14 = .ok (.iconst 0, 1) := by decide +kernel
theorem dX4_in_15 : decode cX4_in 15 = .ok (.ireturn, 1) := by decide +kernel
set_option maxRecDepth 20000 in
theorem ggX4_isPlayer_X4_in : GoodIn wsX4_isPlayer wsX4_in := goodIn_r _ [4] (by decide +kernel) (by decide +kernel)
set_option maxRecDepth 20000 in
theorem gX4_isPlayer_X4_in : GoodIn wsX4_isPlayer (va_wsS RX4 35 yX4_in wsX4_in) := goodIn_app (goodIn_of _ (by decide +kernel)) ggX4_isPlayer_X4_in
theorem dX4_isPlayer_0 : decode cX4_isPlayer 0 = .ok (.iload_n 0, 1) := by decide +kernel
theorem dX4_isPlayer_1 : decode cX4_isPlayer 1 = .ok (.iconst 0, 1) := by decide +kernel
theorem dX4_isPlayer_2 : decode cX4_isPlayer 2 = .ok (.iconst 4, 1) := by decide +kernel
theorem dX4_isPlayer_3 : decode cX4_isPlayer 3 = .ok (.invokestatic 35, 3) := by decide +kernel
theorem dX4_isPlayer_6 : decode cX4_isPlayer 6 = .ok (.ireturn, 1) := by decide +kernel
theorem dX4_sum_0 : decode cX4_sum 0 = .ok (.iconst 0, 1) := by decide +kernel
theorem dX4_sum_1 : decode cX4_sum 1 = .ok (.istore_n 2, 1) := by decide +kernel
theorem dX4_sum_2 : decode cX4_sum 2 = .ok (.iconst 0, 1) := by decide +kernel
theorem dX4_sum_3 : decode cX4_sum 3 = .ok (.istore_n 3, 1) := by decide +kernel
theorem dX4_sum_4 : decode cX4_sum 4 = .ok (.iload_n 3, 1) := by decide +kernel
theorem dX4_sum_5 : decode cX4_sum 5 = .ok (.iconst 5, 1) := by decide +kernel
theorem dX4_sum_6 : decode cX4_sum 6 = .ok (.if_icmp .ge 20, 3) := by decide +kernel
theorem dX4_sum_9 : decode cX4_sum 9 = .ok (.iload_n 2, 1) := by decide +kernel
theorem dX4_sum_10 : decode cX4_sum 10 = .ok (.aload_n 0, 1) := by decide +kernel
theorem dX4_sum_11 : decode cX4_sum 11 = .ok (.getfield 7, 3) := by decide +kernel
theorem dX4_sum_14 : decode cX4_sum 14 = .ok (.iload_n 1, 1) := by decide +kernel
theorem dX4_sum_15 : decode cX4_sum 15 = .ok (.iload_n 3, 1) := by decide +kernel
theorem dX4_sum_16 : decode cX4_sum 16 = .ok (.iadd, 1) := by decide +kernel
theorem dX4_sum_17 : decode cX4_sum 17 = .ok (.iaload, 1) := by decide +kernel
theorem dX4_sum_18 : decode cX4_sum 18 = .ok (.iadd, 1) := by decide +kernel
theorem dX4_sum_19 : decode cX4_sum 19 = .ok (.istore_n 2, 1) := by decide +kernel
theorem dX4_sum_20 : decode cX4_sum 20 = .ok (.iinc 3 1, 3) := by decide +kernel
theorem dX4_sum_23 : decode cX4_sum 23 = .ok (.goto (-19), 3) := by decide +kernel
theorem dX4_sum_26 : decode cX4_sum 26 = .ok (.iload_n 2, 1) := by decide +kernel
theorem dX4_sum_27 : decode cX4_sum 27 = .ok (.ireturn, 1) := by decide +kernel
theorem dX4_playerAt_0 : decode cX4_playerAt 0 = .ok (.ldc 39, 2) := by decide +kernel
theorem dX4_playerAt_2 : decode cX4_playerAt 2 = .ok (.istore_n 2, 1) := by decide +kernel
theorem dX4_playerAt_3 : decode cX4_playerAt 3 = .ok (.iconst 0, 1) := by decide +kernel
theorem dX4_playerAt_4 : decode cX4_playerAt 4 = .ok (.istore_n 3, 1) := by decide +kernel
theorem dX4_playerAt_5 : decode cX4_playerAt 5 = .ok (.iload_n 3, 1) := by decide +kernel
theorem dX4_playerAt_6 : decode cX4_playerAt 6 = .ok (.iconst 5, 1) := by decide +kernel
theorem dX4_playerAt_7 : decode cX4_playerAt 7 = .ok (.if_icmp .ge 28, 3) := by decide +kernel
theorem dX4_playerAt_10 : decode cX4_playerAt 10 = .ok (.aload_n 0, 1) := by decide +kernel
theorem dX4_playerAt_11 : decode cX4_playerAt 11 = .ok (.getfield 7, 3) := by decide +kernel
theorem dX4_playerAt_14 : decode cX4_playerAt 14 = .ok (.bipush 18, 2) := by decide +kernel
theorem dX4_playerAt_16 : decode cX4_playerAt 16 = .ok (.iload_n 3, 1) := by decide +kernel
theorem dX4_playerAt_17 : decode cX4_playerAt 17 = .ok (.iadd, 1) := by decide +kernel
theorem dX4_playerAt_18 : decode cX4_playerAt 18 = .ok (.iaload, 1) := by decide +kernel
theorem dX4_playerAt_19 : decode cX4_playerAt 19 = .ok (.iload_n 1, 1) := by decide +kernel
theorem dX4_playerAt_20 : decode cX4_playerAt 20 = .ok (.if_icmp .ne 7, 3) := by decide +kernel
theorem dX4_playerAt_23 : decode cX4_playerAt 23 = .ok (.iload_n 3, 1) := by decide +kernel
theorem dX4_playerAt_24 : decode cX4_playerAt 24 = .ok (.goto 4, 3) := by decide +kernel
theorem dX4_playerAt_27 : decode cX4_playerAt 27 = .ok (.iload_n 2, 1) := by decide +kernel
theorem dX4_playerAt_28 : decode cX4_playerAt 28 = .ok (.istore_n 2, 1) := by decide +kernel
theorem dX4_playerAt_29 : decode cX4_playerAt 29 = .ok (.iinc 3 1, 3) := by decide +kernel
theorem dX4_playerAt_32 : decode cX4_playerAt 32 = .ok (.goto (-27), 3) := by decide +kernel
theorem dX4_playerAt_35 : decode cX4_playerAt 35 = .ok (.iload_n 2, 1) := by decide +kernel
theorem dX4_playerAt_36 : decode cX4_playerAt 36 = .ok (.ireturn, 1) := by decide +kernel
theorem dX4_clearAuction_0 : decode cX4_clearAuction 0 = .ok (.aload_n 0, 1) := by decide +kernel
theorem dX4_clearAuction_1 : decode cX4_clearAuction 1 = .ok (.getfield 7, 3) := by decide +kernel
theorem dX4_clearAuction_4 : decode cX4_clearAuction 4 = .ok (.iconst 4, 1) := by decide +kernel
theorem dX4_clearAuction_5 : decode cX4_clearAuction 5 = .ok (.iconst 0, 1) := by decide +kernel
theorem dX4_clearAuction_6 : decode cX4_clearAuction 6 = .ok (.iastore, 1) := by decide +kernel
theorem dX4_clearAuction_7 : decode cX4_clearAuction 7 = .ok (.aload_n 0, 1) := by decide +kernel
theorem dX4_clearAuction_8 : decode cX4_clearAuction 8 = .ok (.getfield 7, 3) := by decide +kernel
theorem dX4_clearAuction_11 : decode cX4_clearAuction 11 = .ok (.iconst 5, 1) := by decide +kernel
theorem dX4_clearAuction_12 : decode cX4_clearAuction 12 = .ok (.ldc 39, 2) := by decide +kernel
theorem dX4_clearAuction_14 : decode cX4_clearAuction 14 = .ok (.iastore, 1) := by decide +kernel
theorem dX4_clearAuction_15 : decode cX4_clearAuction 15 = .ok (.aload_n 0, 1) := by decide +kernel
theorem dX4_clearAuction_16 : decode cX4_clearAuction 16 = .ok (.getfield 7, 3) := by decide +kernel
theorem dX4_clearAuction_19 : decode cX4_clearAuction 19 = .ok (.bipush 6, 2) := by decide +kernel
theorem dX4_clearAuction_21 : decode cX4_clearAuction 21 = .ok (.ldc 39, 2) := by decide +kernel
theorem dX4_clearAuction_23 : decode cX4_clearAuction 23 = .ok (.iastore, 1) := by decide +kernel
theorem dX4_clearAuction_24 : decode cX4_clearAuction 24 = .ok (.iconst 0, 1) := by decide +kernel
theorem dX4_clearAuction_25 : decode cX4_clearAuction 25 = .ok (.istore_n 1, 1) := by decide +kernel
theorem dX4_clearAuction_26 : decode cX4_clearAuction 26 = .ok (.iload_n 1, 1) := by decide +kernel
theorem dX4_clearAuction_27 : decode cX4_clearAuction 27 = .ok (.iconst 5, 1) := by decide +kernel
theorem dX4_clearAuction_28 : decode cX4_clearAuction 28 = .ok (.if_icmp .ge 31, 3) := by decide +kernel
theorem dX4_clearAuction_31 : decode cX4_clearAuction 31 = .ok (.aload_n 0, 1) := by decide +kernel
theorem dX4_clearAuction_32 : decode cX4_clearAuction 32 = .ok (.getfield 7, 3) := by decide +kernel
theorem dX4_clearAuction_35 : decode cX4_clearAuction 35 = .ok (.bipush 23, 2) := by decide +kernel
theorem dX4_clearAuction_37 : decode cX4_clearAuction 37 = .ok (.iload_n 1, 1) := by decide +kernel
theorem dX4_clearAuction_38 : decode cX4_clearAuction 38 = .ok (.iadd, 1) := by decide +kernel
theorem dX4_clearAuction_39 : decode cX4_clearAuction 39 = .ok (.ldc 39, 2) := by decide +kernel
theorem dX4_clearAuction_41 : decode cX4_clearAuction 41 = .ok (.iastore, 1) := by decide +kernel
theorem dX4_clearAuction_42 : decode cX4_clearAuction 42 = .ok (.aload_n 0, 1) := by decide +kernel
theorem dX4_clearAuction_43 : decode cX4_clearAuction 43 = .ok (.getfield 7, 3) := by decide +kernel
theorem dX4_clearAuction_46 : decode cX4_clearAuction 46 = .ok (.bipush 28, 2) := by decide +kernel
theorem dX4_clearAuction_48 : decode cX4_clearAuction 48 = .ok (.iload_n 1, 1) := by decide +kernel
theorem dX4_clearAuction_49 : decode cX4_clearAuction 49 = .ok (.iadd, 1) := by decide +kernel
theorem dX4_clearAuction_50 : decode cX4_clearAuction 50 = .ok (.ldc 39, 2) := by decide +kernel
theorem dX4_clearAuction_52 : decode cX4_clearAuction 52 = .ok (.iastore, 1) := by decide +kernel
theorem dX4_clearAuction_53 : decode cX4_clearAuction 53 = .ok (.iinc 1 1, 3) := by decide +kernel
theorem dX4_clearAuction_56 : decode cX4_clearAuction 56 = .ok (.goto (-30), 3) := by decide +kernel
theorem dX4_clearAuction_59 : decode cX4_clearAuction 59 = .ok (.return_, 1) := by decide +kernel
theorem dX4_copyState_0 : decode cX4_copyState 0 = .ok (.iconst 0, 1) := by decide +kernel
theorem dX4_copyState_1 : decode cX4_copyState 1 = .ok (.istore 4, 2) := by decide +kernel
theorem dX4_copyState_3 : decode cX4_copyState 3 = .ok (.iload 4, 2) := by decide +kernel
theorem dX4_copyState_5 : decode cX4_copyState 5 = .ok (.bipush 53, 2) := by decide +kernel
theorem dX4_copyState_7 : decode cX4_copyState 7 = .ok (.if_icmp .ge 21, 3) := by decide +kernel
theorem dX4_copyState_10 : decode cX4_copyState 10 = .ok (.aload_n 2, 1) := by decide +kernel
theorem dX4_copyState_11 : decode cX4_copyState 11 = .ok (.iload_n 3, 1) := by decide +kernel
theorem dX4_copyState_12 : decode cX4_copyState 12 = .ok (.iload 4, 2) := by decide +kernel
theorem dX4_copyState_14 : decode cX4_copyState 14 = .ok (.iadd, 1) := by decide +kernel
theorem dX4_copyState_15 : decode cX4_copyState 15 = .ok (.aload_n 0, 1) := by decide +kernel
theorem dX4_copyState_16 : decode cX4_copyState 16 = .ok (.iload_n 1, 1) := by decide +kernel
theorem dX4_copyState_17 : decode cX4_copyState 17 = .ok (.iload 4, 2) := by decide +kernel
theorem dX4_copyState_19 : decode cX4_copyState 19 = .ok (.iadd, 1) := by decide +kernel
theorem dX4_copyState_20 : decode cX4_copyState 20 = .ok (.iaload, 1) := by decide +kernel
theorem dX4_copyState_21 : decode cX4_copyState 21 = .ok (.iastore, 1) := by decide +kernel
theorem dX4_copyState_22 : decode cX4_copyState 22 = .ok (.iinc 4 1, 3) := by decide +kernel
theorem dX4_copyState_25 : decode cX4_copyState 25 = .ok (.goto (-22), 3) := by decide +kernel
theorem dX4_copyState_28 : decode cX4_copyState 28 = .ok (.return_, 1) := by decide +kernel
set_option maxRecDepth 20000 in
theorem ggX4_record_X4_copyState : GoodIn wsX4_record wsX4_copyState := goodIn_r _ [7] (by decide +kernel) (by decide +kernel)
set_option maxRecDepth 20000 in
theorem gX4_record_X4_copyState : GoodIn wsX4_record (va_wsS RX4 44 yX4_copyState wsX4_copyState) := goodIn_app (goodIn_of _ (by decide +kernel)) ggX4_record_X4_copyState
theorem dX4_record_0 : decode cX4_record 0 = .ok (.aload_n 0, 1) := by decide +kernel
theorem dX4_record_1 : decode cX4_record 1 = .ok (.getfield 40, 3) := by decide +kernel
theorem dX4_record_4 : decode cX4_record 4 = .ok (.bipush 6, 2) := by decide +kernel
theorem dX4_record_6 : decode cX4_record 6 = .ok (.if_icmp .ne 43, 3) := by decide +kernel
theorem dX4_record_9 : decode cX4_record 9 = .ok (.iconst 0, 1) := by decide +kernel
theorem dX4_record_10 : decode cX4_record 10 = .ok (.istore_n 1, 1) := by decide +kernel
theorem dX4_record_11 : decode cX4_record 11 = .ok (.iload_n 1, 1) := by decide +kernel
theorem dX4_record_12 : decode cX4_record 12 = .ok (.sipush 265, 3) := by decide +kernel
theorem dX4_record_15 : decode cX4_record 15 = .ok (.if_icmp .ge 24, 3) := by decide +kernel
theorem dX4_record_18 : decode cX4_record 18 = .ok (.aload_n 0, 1) := by decide +kernel
theorem dX4_record_19 : decode cX4_record 19 = .ok (.getfield 16, 3) := by decide +kernel
theorem dX4_record_22 : decode cX4_record 22 = .ok (.iload_n 1, 1) := by decide +kernel
theorem dX4_record_23 : decode cX4_record 23 = .ok (.aload_n 0, 1) := by decide +kernel
theorem dX4_record_24 : decode cX4_record 24 = .ok (.getfield 16, 3) := by decide +kernel
theorem dX4_record_27 : decode cX4_record 27 = .ok (.iload_n 1, 1) := by decide +kernel
theorem dX4_record_28 : decode cX4_record 28 = .ok (.bipush 53, 2) := by decide +kernel
theorem dX4_record_30 : decode cX4_record 30 = .ok (.iadd, 1) := by decide +kernel
theorem dX4_record_31 : decode cX4_record 31 = .ok (.iaload, 1) := by decide +kernel
theorem dX4_record_32 : decode cX4_record 32 = .ok (.iastore, 1) := by decide +kernel
theorem dX4_record_33 : decode cX4_record 33 = .ok (.iinc 1 1, 3) := by decide +kernel
theorem dX4_record_36 : decode cX4_record 36 = .ok (.goto (-25), 3) := by decide +kernel
theorem dX4_record_39 : decode cX4_record 39 = .ok (.aload_n 0, 1) := by decide +kernel
theorem dX4_record_40 : decode cX4_record 40 = .ok (.dup, 1) := by decide +kernel
theorem dX4_record_41 : decode cX4_record 41 = .ok (.getfield 40, 3) := by decide +kernel
theorem dX4_record_44 : decode cX4_record 44 = .ok (.iconst 1, 1) := by decide +kernel
theorem dX4_record_45 : decode cX4_record 45 = .ok (.isub, 1) := by decide +kernel
theorem dX4_record_46 : decode cX4_record 46 = .ok (.putfield 40, 3) := by decide +kernel
theorem dX4_record_49 : decode cX4_record 49 = .ok (.aload_n 0, 1) := by decide +kernel
theorem dX4_record_50 : decode cX4_record 50 = .ok (.getfield 7, 3) := by decide +kernel
theorem dX4_record_53 : decode cX4_record 53 = .ok (.iconst 0, 1) := by decide +kernel
theorem dX4_record_54 : decode cX4_record 54 = .ok (.aload_n 0, 1) := by decide +kernel
theorem dX4_record_55 : decode cX4_record 55 = .ok (.getfield 16, 3) := by decide +kernel
theorem dX4_record_58 : decode cX4_record 58 = .ok (.bipush 53, 2) := by decide +kernel
theorem dX4_record_60 : decode cX4_record 60 = .ok (.aload_n 0, 1) := by decide +kernel
theorem dX4_record_61 : decode cX4_record 61 = .ok (.getfield 40, 3) := by decide +kernel
theorem dX4_record_64 : decode cX4_record 64 = .ok (.imul, 1) := by decide +kernel
theorem dX4_record_65 : decode cX4_record 65 = .ok (.invokestatic 44, 3) := by decide +kernel
theorem dX4_record_68 : decode cX4_record 68 = .ok (.aload_n 0, 1) := by decide +kernel
theorem dX4_record_69 : decode cX4_record 69 = .ok (.dup, 1) := by decide +kernel
theorem dX4_record_70 : decode cX4_record 70 = .ok (.getfield 40, 3) := by decide +kernel
theorem dX4_record_73 : decode cX4_record 73 = .ok (.iconst 1, 1) := by decide +kernel
theorem dX4_record_74 : decode cX4_record 74 = .ok (.iadd, 1) := by decide +kernel
theorem dX4_record_75 : decode cX4_record 75 = .ok (.putfield 40, 3) := by decide +kernel
theorem dX4_record_78 : decode cX4_record 78 = .ok (.return_, 1) := by decide +kernel
set_option maxRecDepth 20000 in
theorem ggX4_undo_X4_copyState : GoodIn wsX4_undo wsX4_copyState := goodIn_r _ [8] (by decide +kernel) (by decide +kernel)
set_option maxRecDepth 20000 in
theorem gX4_undo_X4_copyState : GoodIn wsX4_undo (va_wsS RX4 44 yX4_copyState wsX4_copyState) := goodIn_app (goodIn_of _ (by decide +kernel)) ggX4_undo_X4_copyState
theorem dX4_undo_0 : decode cX4_undo 0 = .ok (.aload_n 0, 1) := by decide +kernel
theorem dX4_undo_1 : decode cX4_undo 1 = .ok (.getfield 40, 3) := by decide +kernel
theorem dX4_undo_4 : decode cX4_undo 4 = .ok (.ifCond .ne 6, 3) := by decide +kernel
theorem dX4_undo_7 : decode cX4_undo 7 = .ok (.ldc 48, 2) := by decide +kernel
theorem dX4_undo_9 : decode cX4_undo 9 = .ok (.ireturn, 1) := by decide +kernel
theorem dX4_undo_10 : decode cX4_undo 10 = .ok (.aload_n 0, 1) := by decide +kernel
theorem dX4_undo_11 : decode cX4_undo 11 = .ok (.dup, 1) := by decide +kernel
theorem dX4_undo_12 : decode cX4_undo 12 = .ok (.getfield 40, 3) := by decide +kernel
theorem dX4_undo_15 : decode cX4_undo 15 = .ok (.iconst 1, 1) := by decide +kernel
theorem dX4_undo_16 : decode cX4_undo 16 = .ok (.isub, 1) := by decide +kernel
theorem dX4_undo_17 : decode cX4_undo 17 = .ok (.putfield 40, 3) := by decide +kernel
theorem dX4_undo_20 : decode cX4_undo 20 = .ok (.aload_n 0, 1) := by decide +kernel
theorem dX4_undo_21 : decode cX4_undo 21 = .ok (.getfield 16, 3) := by decide +kernel
theorem dX4_undo_24 : decode cX4_undo 24 = .ok (.bipush 53, 2) := by decide +kernel
theorem dX4_undo_26 : decode cX4_undo 26 = .ok (.aload_n 0, 1) := by decide +kernel
theorem dX4_undo_27 : decode cX4_undo 27 = .ok (.getfield 40, 3) := by decide +kernel
theorem dX4_undo_30 : decode cX4_undo 30 = .ok (.imul, 1) := by decide +kernel
theorem dX4_undo_31 : decode cX4_undo 31 = .ok (.aload_n 0, 1) := by decide +kernel
theorem dX4_undo_32 : decode cX4_undo 32 = .ok (.getfield 7, 3) := by decide +kernel
theorem dX4_undo_35 : decode cX4_undo 35 = .ok (.iconst 0, 1) := by decide +kernel
theorem dX4_undo_36 : decode cX4_undo 36 = .ok (.invokestatic 44, 3) := by decide +kernel
theorem dX4_undo_39 : decode cX4_undo 39 = .ok (.aload_n 0, 1) := by decide +kernel
theorem dX4_undo_40 : decode cX4_undo 40 = .ok (.getfield 40, 3) := by decide +kernel
theorem dX4_undo_43 : decode cX4_undo 43 = .ok (.ireturn, 1) := by decide +kernel
set_option maxRecDepth 20000 in
theorem ggX4_save_X4_in : GoodIn wsX4_save wsX4_in := goodIn_r _ [8] (by decide +kernel) (by decide +kernel)
set_option maxRecDepth 20000 in
theorem gX4_save_X4_in : GoodIn wsX4_save (va_wsS RX4 35 yX4_in wsX4_in) := goodIn_app (goodIn_of _ (by decide +kernel)) ggX4_save_X4_in
set_option maxRecDepth 20000 in
theorem ggX4_save_X4_copyState : GoodIn wsX4_save wsX4_copyState := goodIn_r _ [11] (by decide +kernel) (by decide +kernel)
set_option maxRecDepth 20000 in
theorem gX4_save_X4_copyState : GoodIn wsX4_save (va_wsS RX4 44 yX4_copyState wsX4_copyState) := goodIn_app (goodIn_of _ (by decide +kernel)) ggX4_save_X4_copyState
set_option maxRecDepth 20000 in
theorem ggX4_save_X4_sum : GoodIn wsX4_save wsX4_sum := goodIn_r _ [15, 2, 16, 17, 18, 19, 20, 21, 22, 23, 24, 25, 26] (by decide +kernel) (by decide +kernel)
set_option maxRecDepth 20000 in
theorem gX4_save_X4_sum : GoodIn wsX4_save (wsV RX4 50 RX4 yX4_sum wsX4_sum) := goodIn_app (goodIn_of _ (by decide +kernel)) ggX4_save_X4_sum
theorem dX4_save_0 : decode cX4_save 0 = .ok (.iload_n 1, 1) := by decide +kernel
theorem dX4_save_1 : decode cX4_save 1 = .ok (.iconst 0, 1) := by decide +kernel
theorem dX4_save_2 : decode cX4_save 2 = .ok (.iconst 1, 1) := by decide +kernel
theorem dX4_save_3 : decode cX4_save 3 = .ok (.invokestatic 35, 3) := by decide +kernel
theorem dX4_save_6 : decode cX4_save 6 = .ok (.ifCond .ne 6, 3) := by decide +kernel
theorem dX4_save_9 : decode cX4_save 9 = .ok (.ldc 49, 2) := by decide +kernel
theorem dX4_save_11 : decode cX4_save 11 = .ok (.ireturn, 1) := by decide +kernel
theorem dX4_save_12 : decode cX4_save 12 = .ok (.aload_n 0, 1) := by decide +kernel
theorem dX4_save_13 : decode cX4_save 13 = .ok (.getfield 7, 3) := by decide +kernel
theorem dX4_save_16 : decode cX4_save 16 = .ok (.iconst 0, 1) := by decide +kernel
theorem dX4_save_17 : decode cX4_save 17 = .ok (.aload_n 0, 1) := by decide +kernel
theorem dX4_save_18 : decode cX4_save 18 = .ok (.getfield 19, 3) := by decide +kernel
theorem dX4_save_21 : decode cX4_save 21 = .ok (.bipush 53, 2) := by decide +kernel
theorem dX4_save_23 : decode cX4_save 23 = .ok (.iload_n 1, 1) := by decide +kernel
theorem dX4_save_24 : decode cX4_save 24 = .ok (.imul, 1) := by decide +kernel
theorem dX4_save_25 : decode cX4_save 25 = .ok (.invokestatic 44, 3) := by decide +kernel
theorem dX4_save_28 : decode cX4_save 28 = .ok (.aload_n 0, 1) := by decide +kernel
theorem dX4_save_29 : decode cX4_save 29 = .ok (.getfield 22, 3) := by decide +kernel
theorem dX4_save_32 : decode cX4_save 32 = .ok (.iload_n 1, 1) := by decide +kernel
theorem dX4_save_33 : decode cX4_save 33 = .ok (.iconst 1, 1) := by decide +kernel
theorem dX4_save_34 : decode cX4_save 34 = .ok (.bastore, 1) := by decide +kernel
theorem dX4_save_35 : decode cX4_save 35 = .ok (.aload_n 0, 1) := by decide +kernel
theorem dX4_save_36 : decode cX4_save 36 = .ok (.bipush 8, 2) := by decide +kernel
theorem dX4_save_38 : decode cX4_save 38 = .ok (.invokevirtual 50, 3) := by decide +kernel
theorem dX4_save_41 : decode cX4_save 41 = .ok (.ireturn, 1) := by decide +kernel
set_option maxRecDepth 20000 in
theorem ggX4_restore_X4_in : GoodIn wsX4_restore wsX4_in := goodIn_r _ [9] (by decide +kernel) (by decide +kernel)
set_option maxRecDepth 20000 in
theorem gX4_restore_X4_in : GoodIn wsX4_restore (va_wsS RX4 35 yX4_in wsX4_in) := goodIn_app (goodIn_of _ (by decide +kernel)) ggX4_restore_X4_in
set_option maxRecDepth 20000 in
theorem ggX4_restore_X4_record : GoodIn wsX4_restore wsX4_record := goodIn_r _ [13, 14, 15, 5, 16, 17, 8, 18, 23, 24, 25, 26, 27, 28, 29, 30, 31, 32, 33] (by decide +kernel) (by decide +kernel)
set_option maxRecDepth 20000 in
theorem gX4_restore_X4_record : GoodIn wsX4_restore (wsV RX4 54 RX4 yX4_record wsX4_record) := goodIn_app (goodIn_of _ (by decide +kernel)) ggX4_restore_X4_record
set_option maxRecDepth 20000 in
theorem ggX4_restore_X4_copyState : GoodIn wsX4_restore wsX4_copyState := goodIn_r _ [18] (by decide +kernel) (by decide +kernel)
set_option maxRecDepth 20000 in
theorem gX4_restore_X4_copyState : GoodIn wsX4_restore (va_wsS RX4 44 yX4_copyState wsX4_copyState) := goodIn_app (goodIn_of _ (by decide +kernel)) ggX4_restore_X4_copyState
set_option maxRecDepth 20000 in
theorem ggX4_restore_X4_sum : GoodIn wsX4_restore wsX4_sum := goodIn_r _ [22, 5, 23, 24, 25, 26, 27, 28, 29, 30, 31, 32, 33] (by decide +kernel) (by decide +kernel)
set_option maxRecDepth 20000 in
theorem gX4_restore_X4_sum : GoodIn wsX4_restore (wsV RX4 50 RX4 yX4_sum wsX4_sum) := goodIn_app (goodIn_of _ (by decide +kernel)) ggX4_restore_X4_sum
theorem dX4_restore_0 : decode cX4_restore 0 = .ok (.iload_n 1, 1) := by decide +kernel
theorem dX4_restore_1 : decode cX4_restore 1 = .ok (.iconst 0, 1) := by decide +kernel
theorem dX4_restore_2 : decode cX4_restore 2 = .ok (.iconst 1, 1) := by decide +kernel
theorem dX4_restore_3 : decode cX4_restore 3 = .ok (.invokestatic 35, 3) := by decide +kernel
theorem dX4_restore_6 : decode cX4_restore 6 = .ok (.ifCond .ne 6, 3) := by decide +kernel
theorem dX4_restore_9 : decode cX4_restore 9 = .ok (.ldc 49, 2) := by decide +kernel
theorem dX4_restore_11 : decode cX4_restore 11 = .ok (.ireturn, 1) := by decide +kernel
theorem dX4_restore_12 : decode cX4_restore 12 = .ok (.aload_n 0, 1) := by decide +kernel
theorem dX4_restore_13 : decode cX4_restore 13 = .ok (.getfield 22, 3) := by decide +kernel
theorem dX4_restore_16 : decode cX4_restore 16 = .ok (.iload_n 1, 1) := by decide +kernel
theorem dX4_restore_17 : decode cX4_restore 17 = .ok (.baload, 1) := by decide +kernel
theorem dX4_restore_18 : decode cX4_restore 18 = .ok (.ifCond .ne 6, 3) := by decide +kernel
theorem dX4_restore_21 : decode cX4_restore 21 = .ok (.ldc 48, 2) := by decide +kernel
theorem dX4_restore_23 : decode cX4_restore 23 = .ok (.ireturn, 1) := by decide +kernel
theorem dX4_restore_24 : decode cX4_restore 24 = .ok (.aload_n 0, 1) := by decide +kernel
theorem dX4_restore_25 : decode cX4_restore 25 = .ok (.invokevirtual 54, 3) := by decide +kernel
theorem dX4_restore_28 : decode cX4_restore 28 = .ok (.aload_n 0, 1) := by decide +kernel
theorem dX4_restore_29 : decode cX4_restore 29 = .ok (.getfield 19, 3) := by decide +kernel
theorem dX4_restore_32 : decode cX4_restore 32 = .ok (.bipush 53, 2) := by decide +kernel
theorem dX4_restore_34 : decode cX4_restore 34 = .ok (.iload_n 1, 1) := by decide +kernel
theorem dX4_restore_35 : decode cX4_restore 35 = .ok (.imul, 1) := by decide +kernel
theorem dX4_restore_36 : decode cX4_restore 36 = .ok (.aload_n 0, 1) := by decide +kernel
theorem dX4_restore_37 : decode cX4_restore 37 = .ok (.getfield 7, 3) := by decide +kernel
theorem dX4_restore_40 : decode cX4_restore 40 = .ok (.iconst 0, 1) := by decide +kernel
theorem dX4_restore_41 : decode cX4_restore 41 = .ok (.invokestatic 44, 3) := by decide +kernel
theorem dX4_restore_44 : decode cX4_restore 44 = .ok (.aload_n 0, 1) := by decide +kernel
theorem dX4_restore_45 : decode cX4_restore 45 = .ok (.bipush 8, 2) := by decide +kernel
theorem dX4_restore_47 : decode cX4_restore 47 = .ok (.invokevirtual 50, 3) := by decide +kernel
theorem dX4_restore_50 : decode cX4_restore 50 = .ok (.ireturn, 1) := by decide +kernel
set_option maxRecDepth 20000 in
theorem ggX4_isValue_X4_in : GoodIn wsX4_isValue wsX4_in := goodIn_r _ [4] (by decide +kernel) (by decide +kernel)
set_option maxRecDepth 20000 in
theorem gX4_isValue_X4_in : GoodIn wsX4_isValue (va_wsS RX4 35 yX4_in wsX4_in) := goodIn_app (goodIn_of _ (by decide +kernel)) ggX4_isValue_X4_in
theorem dX4_isValue_0 : decode cX4_isValue 0 = .ok (.iload_n 0, 1) := by decide +kernel
theorem dX4_isValue_1 : decode cX4_isValue 1 = .ok (.tableswitch 55 0 3 #[31, 39, 47, 47], 31) := by decide +kernel
theorem dX4_isValue_32 : decode cX4_isValue 32 = .ok (.iload_n 1, 1) := by decide +kernel
theorem dX4_isValue_33 : decode cX4_isValue 33 = .ok (.iconst 1, 1) := by decide +kernel
theorem dX4_isValue_34 : decode cX4_isValue 34 = .ok (.bipush 9, 2) := by decide +kernel
theorem dX4_isValue_36 : decode cX4_isValue 36 = .ok (.invokestatic 35, 3) := by decide +kernel
theorem dX4_isValue_39 : decode cX4_isValue 39 = .ok (.ireturn, 1) := by decide +kernel
theorem dX4_isValue_40 : decode cX4_isValue 40 = .ok (.iload_n 1, 1) := by decide +kernel
theorem dX4_isValue_41 : decode cX4_isValue 41 = .ok (.iconst 0, 1) := by decide +kernel
theorem dX4_isValue_42 : decode cX4_isValue 42 = .ok (.bipush 20, 2) := by decide +kernel
theorem dX4_isValue_44 : decode cX4_isValue 44 = .ok (.invokestatic 35, 3) := by decide +kernel
theorem dX4_isValue_47 : decode cX4_isValue 47 = .ok (.ireturn, 1) := by decide +kernel
theorem dX4_isValue_48 : decode cX4_isValue 48 = .ok (.iload_n 1, 1) := by decide +kernel
theorem dX4_isValue_49 : decode cX4_isValue 49 = .ok (.iconst 0, 1) := by decide +kernel
theorem dX4_isValue_50 : decode cX4_isValue 50 = .ok (.bipush 100, 2) := by decide +kernel
theorem dX4_isValue_52 : decode cX4_isValue 52 = .ok (.invokestatic 35, 3) := by decide +kernel
theorem dX4_isValue_55 : decode cX4_isValue 55 = .ok (.ireturn, 1) := by decide +kernel
theorem dX4_isValue_56 : decode cX4_isValue 56 = .ok (.iconst 0, 1) := by decide +kernel
theorem dX4_isValue_57 : decode cX4_isValue 57 = .ok (.ireturn, 1) := by decide +kernel
set_option maxRecDepth 20000 in
theorem ggX4_change_X4_record : GoodIn wsX4_change wsX4_record := goodIn_r _ [6, 7, 8, 1, 9, 10, 5, 11, 12, 13, 14, 15, 16, 17, 18, 19, 20, 21, 22] (by decide +kernel) (by decide +kernel)
set_option maxRecDepth 20000 in
theorem gX4_change_X4_record : GoodIn wsX4_change (wsV RX4 54 RX4 yX4_record wsX4_record) := goodIn_app (goodIn_of _ (by decide +kernel)) ggX4_change_X4_record
theorem dX4_change_0 : decode cX4_change 0 = .ok (.aload_n 0, 1) := by decide +kernel
theorem dX4_change_1 : decode cX4_change 1 = .ok (.invokevirtual 54, 3) := by decide +kernel
theorem dX4_change_4 : decode cX4_change 4 = .ok (.aload_n 0, 1) := by decide +kernel
theorem dX4_change_5 : decode cX4_change 5 = .ok (.getfield 7, 3) := by decide +kernel
theorem dX4_change_8 : decode cX4_change 8 = .ok (.iload_n 1, 1) := by decide +kernel
theorem dX4_change_9 : decode cX4_change 9 = .ok (.iaload, 1) := by decide +kernel
theorem dX4_change_10 : decode cX4_change 10 = .ok (.istore_n 3, 1) := by decide +kernel
theorem dX4_change_11 : decode cX4_change 11 = .ok (.aload_n 0, 1) := by decide +kernel
theorem dX4_change_12 : decode cX4_change 12 = .ok (.getfield 7, 3) := by decide +kernel
theorem dX4_change_15 : decode cX4_change 15 = .ok (.iload_n 1, 1) := by decide +kernel
theorem dX4_change_16 : decode cX4_change 16 = .ok (.iload_n 2, 1) := by decide +kernel
theorem dX4_change_17 : decode cX4_change 17 = .ok (.iastore, 1) := by decide +kernel
theorem dX4_change_18 : decode cX4_change 18 = .ok (.iload_n 3, 1) := by decide +kernel
theorem dX4_change_19 : decode cX4_change 19 = .ok (.ireturn, 1) := by decide +kernel
set_option maxRecDepth 20000 in
theorem ggX4_set_X4_isValue : GoodIn wsX4_set wsX4_isValue := goodIn_r _ [5, 6, 7, 4, 8] (by decide +kernel) (by decide +kernel)
set_option maxRecDepth 20000 in
theorem gX4_set_X4_isValue : GoodIn wsX4_set (va_wsS RX4 57 yX4_isValue wsX4_isValue) := goodIn_app (goodIn_of _ (by decide +kernel)) ggX4_set_X4_isValue
set_option maxRecDepth 20000 in
theorem ggX4_set_X4_change : GoodIn wsX4_set wsX4_change := goodIn_r _ [12, 13, 14, 15, 16, 4, 17, 18, 19, 20, 21, 22, 23, 24, 25, 26, 27, 28, 29, 30, 31, 32, 33] (by decide +kernel) (by decide +kernel)
set_option maxRecDepth 20000 in
theorem gX4_set_X4_change : GoodIn wsX4_set (wsV RX4 61 RX4 yX4_change wsX4_change) := goodIn_app (goodIn_of _ (by decide +kernel)) ggX4_set_X4_change
theorem dX4_set_0 : decode cX4_set 0 = .ok (.iload_n 1, 1) := by decide +kernel
theorem dX4_set_1 : decode cX4_set 1 = .ok (.iload_n 2, 1) := by decide +kernel
theorem dX4_set_2 : decode cX4_set 2 = .ok (.invokestatic 57, 3) := by decide +kernel
theorem dX4_set_5 : decode cX4_set 5 = .ok (.ifCond .eq 12, 3) := by decide +kernel
theorem dX4_set_8 : decode cX4_set 8 = .ok (.aload_n 0, 1) := by decide +kernel
theorem dX4_set_9 : decode cX4_set 9 = .ok (.iload_n 1, 1) := by decide +kernel
theorem dX4_set_10 : decode cX4_set 10 = .ok (.iload_n 2, 1) := by decide +kernel
theorem dX4_set_11 : decode cX4_set 11 = .ok (.invokevirtual 61, 3) := by decide +kernel
theorem dX4_set_14 : decode cX4_set 14 = .ok (.goto 5, 3) := by decide +kernel
theorem dX4_set_17 : decode cX4_set 17 = .ok (.ldc 49, 2) := by decide +kernel
theorem dX4_set_19 : decode cX4_set 19 = .ok (.ireturn, 1) := by decide +kernel
set_option maxRecDepth 20000 in
theorem ggX4_coins_X4_isPlayer : GoodIn wsX4_coins wsX4_isPlayer := goodIn_r _ [9, 10, 11, 8, 12] (by decide +kernel) (by decide +kernel)
set_option maxRecDepth 20000 in
theorem gX4_coins_X4_isPlayer : GoodIn wsX4_coins (va_wsS RX4 65 yX4_isPlayer wsX4_isPlayer) := goodIn_app (goodIn_of _ (by decide +kernel)) ggX4_coins_X4_isPlayer
set_option maxRecDepth 20000 in
theorem ggX4_coins_X4_in : GoodIn wsX4_coins wsX4_in := goodIn_r _ [12] (by decide +kernel) (by decide +kernel)
set_option maxRecDepth 20000 in
theorem gX4_coins_X4_in : GoodIn wsX4_coins (va_wsS RX4 35 yX4_in wsX4_in) := goodIn_app (goodIn_of _ (by decide +kernel)) ggX4_coins_X4_in
set_option maxRecDepth 20000 in
theorem ggX4_coins_X4_change : GoodIn wsX4_coins wsX4_change := goodIn_r _ [16, 3, 17, 18, 19, 8, 20, 21, 22, 23, 24, 25, 26, 27, 28, 29, 30, 31, 32, 33, 34, 35, 36] (by decide +kernel) (by decide +kernel)
set_option maxRecDepth 20000 in
theorem gX4_coins_X4_change : GoodIn wsX4_coins (wsV RX4 61 RX4 yX4_change wsX4_change) := goodIn_app (goodIn_of _ (by decide +kernel)) ggX4_coins_X4_change
theorem dX4_coins_0 : decode cX4_coins 0 = .ok (.iload_n 1, 1) := by decide +kernel
theorem dX4_coins_1 : decode cX4_coins 1 = .ok (.invokestatic 65, 3) := by decide +kernel
theorem dX4_coins_4 : decode cX4_coins 4 = .ok (.ifCond .ne 6, 3) := by decide +kernel
theorem dX4_coins_7 : decode cX4_coins 7 = .ok (.ldc 69, 2) := by decide +kernel
theorem dX4_coins_9 : decode cX4_coins 9 = .ok (.ireturn, 1) := by decide +kernel
theorem dX4_coins_10 : decode cX4_coins 10 = .ok (.iload_n 2, 1) := by decide +kernel
theorem dX4_coins_11 : decode cX4_coins 11 = .ok (.iconst 0, 1) := by decide +kernel
theorem dX4_coins_12 : decode cX4_coins 12 = .ok (.sipush 9999, 3) := by decide +kernel
theorem dX4_coins_15 : decode cX4_coins 15 = .ok (.invokestatic 35, 3) := by decide +kernel
theorem dX4_coins_18 : decode cX4_coins 18 = .ok (.ifCond .ne 6, 3) := by decide +kernel
theorem dX4_coins_21 : decode cX4_coins 21 = .ok (.ldc 49, 2) := by decide +kernel
theorem dX4_coins_23 : decode cX4_coins 23 = .ok (.ireturn, 1) := by decide +kernel
theorem dX4_coins_24 : decode cX4_coins 24 = .ok (.aload_n 0, 1) := by decide +kernel
theorem dX4_coins_25 : decode cX4_coins 25 = .ok (.getfield 7, 3) := by decide +kernel
theorem dX4_coins_28 : decode cX4_coins 28 = .ok (.bipush 23, 2) := by decide +kernel
theorem dX4_coins_30 : decode cX4_coins 30 = .ok (.iload_n 1, 1) := by decide +kernel
theorem dX4_coins_31 : decode cX4_coins 31 = .ok (.iadd, 1) := by decide +kernel
theorem dX4_coins_32 : decode cX4_coins 32 = .ok (.iaload, 1) := by decide +kernel
theorem dX4_coins_33 : decode cX4_coins 33 = .ok (.ldc 39, 2) := by decide +kernel
theorem dX4_coins_35 : decode cX4_coins 35 = .ok (.if_icmp .eq 34, 3) := by decide +kernel
theorem dX4_coins_38 : decode cX4_coins 38 = .ok (.aload_n 0, 1) := by decide +kernel
theorem dX4_coins_39 : decode cX4_coins 39 = .ok (.getfield 7, 3) := by decide +kernel
theorem dX4_coins_42 : decode cX4_coins 42 = .ok (.bipush 28, 2) := by decide +kernel
theorem dX4_coins_44 : decode cX4_coins 44 = .ok (.iload_n 1, 1) := by decide +kernel
theorem dX4_coins_45 : decode cX4_coins 45 = .ok (.iadd, 1) := by decide +kernel
theorem dX4_coins_46 : decode cX4_coins 46 = .ok (.iaload, 1) := by decide +kernel
theorem dX4_coins_47 : decode cX4_coins 47 = .ok (.ldc 39, 2) := by decide +kernel
theorem dX4_coins_49 : decode cX4_coins 49 = .ok (.if_icmp .ne 20, 3) := by decide +kernel
theorem dX4_coins_52 : decode cX4_coins 52 = .ok (.aload_n 0, 1) := by decide +kernel
theorem dX4_coins_53 : decode cX4_coins 53 = .ok (.getfield 7, 3) := by decide +kernel
theorem dX4_coins_56 : decode cX4_coins 56 = .ok (.bipush 23, 2) := by decide +kernel
theorem dX4_coins_58 : decode cX4_coins 58 = .ok (.iload_n 1, 1) := by decide +kernel
theorem dX4_coins_59 : decode cX4_coins 59 = .ok (.iadd, 1) := by decide +kernel
theorem dX4_coins_60 : decode cX4_coins 60 = .ok (.iaload, 1) := by decide +kernel
theorem dX4_coins_61 : decode cX4_coins 61 = .ok (.iload_n 2, 1) := by decide +kernel
theorem dX4_coins_62 : decode cX4_coins 62 = .ok (.if_icmp .le 7, 3) := by decide +kernel
theorem dX4_coins_65 : decode cX4_coins 65 = .ok (.iconst 1, 1) := by decide +kernel
theorem dX4_coins_66 : decode cX4_coins 66 = .ok (.goto 4, 3) := by decide +kernel
theorem dX4_coins_69 : decode cX4_coins 69 = .ok (.iconst 0, 1) := by decide +kernel
theorem dX4_coins_70 : decode cX4_coins 70 = .ok (.istore_n 3, 1) := by decide +kernel
theorem dX4_coins_71 : decode cX4_coins 71 = .ok (.iload_n 3, 1) := by decide +kernel
theorem dX4_coins_72 : decode cX4_coins 72 = .ok (.ifCond .eq 8, 3) := by decide +kernel
theorem dX4_coins_75 : decode cX4_coins 75 = .ok (.ldc 48, 2) := by decide +kernel
theorem dX4_coins_77 : decode cX4_coins 77 = .ok (.goto 12, 3) := by decide +kernel
theorem dX4_coins_80 : decode cX4_coins 80 = .ok (.aload_n 0, 1) := by decide +kernel
theorem dX4_coins_81 : decode cX4_coins 81 = .ok (.bipush 8, 2) := by decide +kernel
theorem dX4_coins_83 : decode cX4_coins 83 = .ok (.iload_n 1, 1) := by decide +kernel
theorem dX4_coins_84 : decode cX4_coins 84 = .ok (.iadd, 1) := by decide +kernel
theorem dX4_coins_85 : decode cX4_coins 85 = .ok (.iload_n 2, 1) := by decide +kernel
theorem dX4_coins_86 : decode cX4_coins 86 = .ok (.invokevirtual 61, 3) := by decide +kernel
theorem dX4_coins_89 : decode cX4_coins 89 = .ok (.ireturn, 1) := by decide +kernel
set_option maxRecDepth 20000 in
theorem ggX4_limit_X4_isPlayer : GoodIn wsX4_limit wsX4_isPlayer := goodIn_r _ [6, 7, 8, 5, 9] (by decide +kernel) (by decide +kernel)
set_option maxRecDepth 20000 in
theorem gX4_limit_X4_isPlayer : GoodIn wsX4_limit (va_wsS RX4 65 yX4_isPlayer wsX4_isPlayer) := goodIn_app (goodIn_of _ (by decide +kernel)) ggX4_limit_X4_isPlayer
set_option maxRecDepth 20000 in
theorem ggX4_limit_X4_in : GoodIn wsX4_limit wsX4_in := goodIn_r _ [9] (by decide +kernel) (by decide +kernel)
set_option maxRecDepth 20000 in
theorem gX4_limit_X4_in : GoodIn wsX4_limit (va_wsS RX4 35 yX4_in wsX4_in) := goodIn_app (goodIn_of _ (by decide +kernel)) ggX4_limit_X4_in
set_option maxRecDepth 20000 in
theorem ggX4_limit_X4_change : GoodIn wsX4_limit wsX4_change := goodIn_r _ [13, 14, 15, 16, 17, 5, 18, 19, 20, 21, 22, 23, 24, 25, 26, 27, 28, 29, 30, 31, 32, 33, 34] (by decide +kernel) (by decide +kernel)
set_option maxRecDepth 20000 in
theorem gX4_limit_X4_change : GoodIn wsX4_limit (wsV RX4 61 RX4 yX4_change wsX4_change) := goodIn_app (goodIn_of _ (by decide +kernel)) ggX4_limit_X4_change
theorem dX4_limit_0 : decode cX4_limit 0 = .ok (.iload_n 1, 1) := by decide +kernel
theorem dX4_limit_1 : decode cX4_limit 1 = .ok (.invokestatic 65, 3) := by decide +kernel
theorem dX4_limit_4 : decode cX4_limit 4 = .ok (.ifCond .ne 8, 3) := by decide +kernel
theorem dX4_limit_7 : decode cX4_limit 7 = .ok (.ldc 69, 2) := by decide +kernel
theorem dX4_limit_9 : decode cX4_limit 9 = .ok (.goto 27, 3) := by decide +kernel
theorem dX4_limit_12 : decode cX4_limit 12 = .ok (.iload_n 2, 1) := by decide +kernel
theorem dX4_limit_13 : decode cX4_limit 13 = .ok (.iconst 0, 1) := by decide +kernel
theorem dX4_limit_14 : decode cX4_limit 14 = .ok (.bipush 99, 2) := by decide +kernel
theorem dX4_limit_16 : decode cX4_limit 16 = .ok (.invokestatic 35, 3) := by decide +kernel
theorem dX4_limit_19 : decode cX4_limit 19 = .ok (.ifCond .eq 15, 3) := by decide +kernel
theorem dX4_limit_22 : decode cX4_limit 22 = .ok (.aload_n 0, 1) := by decide +kernel
theorem dX4_limit_23 : decode cX4_limit 23 = .ok (.bipush 13, 2) := by decide +kernel
theorem dX4_limit_25 : decode cX4_limit 25 = .ok (.iload_n 1, 1) := by decide +kernel
theorem dX4_limit_26 : decode cX4_limit 26 = .ok (.iadd, 1) := by decide +kernel
theorem dX4_limit_27 : decode cX4_limit 27 = .ok (.iload_n 2, 1) := by decide +kernel
theorem dX4_limit_28 : decode cX4_limit 28 = .ok (.invokevirtual 61, 3) := by decide +kernel
theorem dX4_limit_31 : decode cX4_limit 31 = .ok (.goto 5, 3) := by decide +kernel
theorem dX4_limit_34 : decode cX4_limit 34 = .ok (.ldc 49, 2) := by decide +kernel
theorem dX4_limit_36 : decode cX4_limit 36 = .ok (.ireturn, 1) := by decide +kernel
set_option maxRecDepth 20000 in
theorem ggX4_prize_X4_isPlayer : GoodIn wsX4_prize wsX4_isPlayer := goodIn_r _ [6, 7, 8, 5, 9] (by decide +kernel) (by decide +kernel)
set_option maxRecDepth 20000 in
theorem gX4_prize_X4_isPlayer : GoodIn wsX4_prize (va_wsS RX4 65 yX4_isPlayer wsX4_isPlayer) := goodIn_app (goodIn_of _ (by decide +kernel)) ggX4_prize_X4_isPlayer
set_option maxRecDepth 20000 in
theorem ggX4_prize_X4_in : GoodIn wsX4_prize wsX4_in := goodIn_r _ [9] (by decide +kernel) (by decide +kernel)
set_option maxRecDepth 20000 in
theorem gX4_prize_X4_in : GoodIn wsX4_prize (va_wsS RX4 35 yX4_in wsX4_in) := goodIn_app (goodIn_of _ (by decide +kernel)) ggX4_prize_X4_in
set_option maxRecDepth 20000 in
theorem ggX4_prize_X4_change : GoodIn wsX4_prize wsX4_change := goodIn_r _ [13, 14, 15, 16, 17, 5, 18, 19, 20, 21, 22, 23, 24, 25, 26, 27, 28, 29, 30, 31, 32, 33, 34] (by decide +kernel) (by decide +kernel)
set_option maxRecDepth 20000 in
theorem gX4_prize_X4_change : GoodIn wsX4_prize (wsV RX4 61 RX4 yX4_change wsX4_change) := goodIn_app (goodIn_of _ (by decide +kernel)) ggX4_prize_X4_change
theorem dX4_prize_0 : decode cX4_prize 0 = .ok (.iload_n 1, 1) := by decide +kernel
theorem dX4_prize_1 : decode cX4_prize 1 = .ok (.invokestatic 65, 3) := by decide +kernel
theorem dX4_prize_4 : decode cX4_prize 4 = .ok (.ifCond .ne 8, 3) := by decide +kernel
theorem dX4_prize_7 : decode cX4_prize 7 = .ok (.ldc 69, 2) := by decide +kernel
theorem dX4_prize_9 : decode cX4_prize 9 = .ok (.goto 27, 3) := by decide +kernel
theorem dX4_prize_12 : decode cX4_prize 12 = .ok (.iload_n 2, 1) := by decide +kernel
theorem dX4_prize_13 : decode cX4_prize 13 = .ok (.iconst 0, 1) := by decide +kernel
theorem dX4_prize_14 : decode cX4_prize 14 = .ok (.bipush 99, 2) := by decide +kernel
theorem dX4_prize_16 : decode cX4_prize 16 = .ok (.invokestatic 35, 3) := by decide +kernel
theorem dX4_prize_19 : decode cX4_prize 19 = .ok (.ifCond .eq 15, 3) := by decide +kernel
theorem dX4_prize_22 : decode cX4_prize 22 = .ok (.aload_n 0, 1) := by decide +kernel
theorem dX4_prize_23 : decode cX4_prize 23 = .ok (.bipush 48, 2) := by decide +kernel
theorem dX4_prize_25 : decode cX4_prize 25 = .ok (.iload_n 1, 1) := by decide +kernel
theorem dX4_prize_26 : decode cX4_prize 26 = .ok (.iadd, 1) := by decide +kernel
theorem dX4_prize_27 : decode cX4_prize 27 = .ok (.iload_n 2, 1) := by decide +kernel
theorem dX4_prize_28 : decode cX4_prize 28 = .ok (.invokevirtual 61, 3) := by decide +kernel
theorem dX4_prize_31 : decode cX4_prize 31 = .ok (.goto 5, 3) := by decide +kernel
theorem dX4_prize_34 : decode cX4_prize 34 = .ok (.ldc 49, 2) := by decide +kernel
theorem dX4_prize_36 : decode cX4_prize 36 = .ok (.ireturn, 1) := by decide +kernel
theorem dX4_least_0 : decode cX4_least 0 = .ok (.aload_n 0, 1) := by decide +kernel
theorem dX4_least_1 : decode cX4_least 1 = .ok (.getfield 7, 3) := by decide +kernel
theorem dX4_least_4 : decode cX4_least 4 = .ok (.bipush 6, 2) := by decide +kernel
theorem dX4_least_6 : decode cX4_least 6 = .ok (.iaload, 1) := by decide +kernel
theorem dX4_least_7 : decode cX4_least 7 = .ok (.ldc 39, 2) := by decide +kernel
theorem dX4_least_9 : decode cX4_least 9 = .ok (.if_icmp .ne 12, 3) := by decide +kernel
theorem dX4_least_12 : decode cX4_least 12 = .ok (.aload_n 0, 1) := by decide +kernel
theorem dX4_least_13 : decode cX4_least 13 = .ok (.getfield 7, 3) := by decide +kernel
theorem dX4_least_16 : decode cX4_least 16 = .ok (.iconst 1, 1) := by decide +kernel
theorem dX4_least_17 : decode cX4_least 17 = .ok (.iaload, 1) := by decide +kernel
theorem dX4_least_18 : decode cX4_least 18 = .ok (.goto 17, 3) := by decide +kernel
theorem dX4_least_21 : decode cX4_least 21 = .ok (.aload_n 0, 1) := by decide +kernel
theorem dX4_least_22 : decode cX4_least 22 = .ok (.getfield 7, 3) := by decide +kernel
theorem dX4_least_25 : decode cX4_least 25 = .ok (.bipush 6, 2) := by decide +kernel
theorem dX4_least_27 : decode cX4_least 27 = .ok (.iaload, 1) := by decide +kernel
theorem dX4_least_28 : decode cX4_least 28 = .ok (.aload_n 0, 1) := by decide +kernel
theorem dX4_least_29 : decode cX4_least 29 = .ok (.getfield 7, 3) := by decide +kernel
theorem dX4_least_32 : decode cX4_least 32 = .ok (.iconst 0, 1) := by decide +kernel
theorem dX4_least_33 : decode cX4_least 33 = .ok (.iaload, 1) := by decide +kernel
theorem dX4_least_34 : decode cX4_least 34 = .ok (.iadd, 1) := by decide +kernel
theorem dX4_least_35 : decode cX4_least 35 = .ok (.ireturn, 1) := by decide +kernel
set_option maxRecDepth 20000 in
theorem ggX4_beginNow_X4_clearAuction : GoodIn wsX4_beginNow wsX4_clearAuction := goodIn_r _ [6, 1, 7, 12, 13, 14, 15, 16, 17, 18, 19, 20, 21, 22] (by decide +kernel) (by decide +kernel)
set_option maxRecDepth 20000 in
theorem gX4_beginNow_X4_clearAuction : GoodIn wsX4_beginNow (wsV RX4 32 RX4 yX4_clearAuction wsX4_clearAuction) := goodIn_app (goodIn_of _ (by decide +kernel)) ggX4_beginNow_X4_clearAuction
set_option maxRecDepth 20000 in
theorem ggX4_beginNow_X4_playerAt : GoodIn wsX4_beginNow wsX4_playerAt := goodIn_r _ [11, 7, 1, 12, 13, 14, 15, 16, 17, 18, 19, 20, 21, 22] (by decide +kernel) (by decide +kernel)
set_option maxRecDepth 20000 in
theorem gX4_beginNow_X4_playerAt : GoodIn wsX4_beginNow (wsV RX4 70 RX4 yX4_playerAt wsX4_playerAt) := goodIn_app (goodIn_of _ (by decide +kernel)) ggX4_beginNow_X4_playerAt
theorem dX4_beginNow_0 : decode cX4_beginNow 0 = .ok (.aload_n 0, 1) := by decide +kernel
theorem dX4_beginNow_1 : decode cX4_beginNow 1 = .ok (.invokevirtual 32, 3) := by decide +kernel
theorem dX4_beginNow_4 : decode cX4_beginNow 4 = .ok (.aload_n 0, 1) := by decide +kernel
theorem dX4_beginNow_5 : decode cX4_beginNow 5 = .ok (.getfield 7, 3) := by decide +kernel
theorem dX4_beginNow_8 : decode cX4_beginNow 8 = .ok (.iconst 4, 1) := by decide +kernel
theorem dX4_beginNow_9 : decode cX4_beginNow 9 = .ok (.iconst 1, 1) := by decide +kernel
theorem dX4_beginNow_10 : decode cX4_beginNow 10 = .ok (.iastore, 1) := by decide +kernel
theorem dX4_beginNow_11 : decode cX4_beginNow 11 = .ok (.aload_n 0, 1) := by decide +kernel
theorem dX4_beginNow_12 : decode cX4_beginNow 12 = .ok (.getfield 7, 3) := by decide +kernel
theorem dX4_beginNow_15 : decode cX4_beginNow 15 = .ok (.iconst 5, 1) := by decide +kernel
theorem dX4_beginNow_16 : decode cX4_beginNow 16 = .ok (.aload_n 0, 1) := by decide +kernel
theorem dX4_beginNow_17 : decode cX4_beginNow 17 = .ok (.iconst 0, 1) := by decide +kernel
theorem dX4_beginNow_18 : decode cX4_beginNow 18 = .ok (.invokevirtual 70, 3) := by decide +kernel
theorem dX4_beginNow_21 : decode cX4_beginNow 21 = .ok (.iastore, 1) := by decide +kernel
theorem dX4_beginNow_22 : decode cX4_beginNow 22 = .ok (.return_, 1) := by decide +kernel
set_option maxRecDepth 20000 in
theorem ggX4_pass_X4_playerAt : GoodIn wsX4_pass wsX4_playerAt := goodIn_r _ [7, 2, 1, 8, 9, 10, 11, 12, 13, 14, 15, 16, 17, 18] (by decide +kernel) (by decide +kernel)
set_option maxRecDepth 20000 in
theorem gX4_pass_X4_playerAt : GoodIn wsX4_pass (wsV RX4 70 RX4 yX4_playerAt wsX4_playerAt) := goodIn_app (goodIn_of _ (by decide +kernel)) ggX4_pass_X4_playerAt
theorem dX4_pass_0 : decode cX4_pass 0 = .ok (.aload_n 0, 1) := by decide +kernel
theorem dX4_pass_1 : decode cX4_pass 1 = .ok (.getfield 7, 3) := by decide +kernel
theorem dX4_pass_4 : decode cX4_pass 4 = .ok (.bipush 18, 2) := by decide +kernel
theorem dX4_pass_6 : decode cX4_pass 6 = .ok (.aload_n 0, 1) := by decide +kernel
theorem dX4_pass_7 : decode cX4_pass 7 = .ok (.getfield 7, 3) := by decide +kernel
theorem dX4_pass_10 : decode cX4_pass 10 = .ok (.iconst 5, 1) := by decide +kernel
theorem dX4_pass_11 : decode cX4_pass 11 = .ok (.iaload, 1) := by decide +kernel
theorem dX4_pass_12 : decode cX4_pass 12 = .ok (.iadd, 1) := by decide +kernel
theorem dX4_pass_13 : decode cX4_pass 13 = .ok (.iaload, 1) := by decide +kernel
theorem dX4_pass_14 : decode cX4_pass 14 = .ok (.istore_n 1, 1) := by decide +kernel
theorem dX4_pass_15 : decode cX4_pass 15 = .ok (.iload_n 1, 1) := by decide +kernel
theorem dX4_pass_16 : decode cX4_pass 16 = .ok (.iconst 1, 1) := by decide +kernel
theorem dX4_pass_17 : decode cX4_pass 17 = .ok (.iadd, 1) := by decide +kernel
theorem dX4_pass_18 : decode cX4_pass 18 = .ok (.iconst 5, 1) := by decide +kernel
theorem dX4_pass_19 : decode cX4_pass 19 = .ok (.irem, 1) := by decide +kernel
theorem dX4_pass_20 : decode cX4_pass 20 = .ok (.istore_n 1, 1) := by decide +kernel
theorem dX4_pass_21 : decode cX4_pass 21 = .ok (.aload_n 0, 1) := by decide +kernel
theorem dX4_pass_22 : decode cX4_pass 22 = .ok (.getfield 7, 3) := by decide +kernel
theorem dX4_pass_25 : decode cX4_pass 25 = .ok (.bipush 28, 2) := by decide +kernel
theorem dX4_pass_27 : decode cX4_pass 27 = .ok (.aload_n 0, 1) := by decide +kernel
theorem dX4_pass_28 : decode cX4_pass 28 = .ok (.iload_n 1, 1) := by decide +kernel
theorem dX4_pass_29 : decode cX4_pass 29 = .ok (.invokevirtual 70, 3) := by decide +kernel
theorem dX4_pass_32 : decode cX4_pass 32 = .ok (.iadd, 1) := by decide +kernel
theorem dX4_pass_33 : decode cX4_pass 33 = .ok (.iaload, 1) := by decide +kernel
theorem dX4_pass_34 : decode cX4_pass 34 = .ok (.ldc 39, 2) := by decide +kernel
theorem dX4_pass_36 : decode cX4_pass 36 = .ok (.if_icmp .ne (-21), 3) := by decide +kernel
theorem dX4_pass_39 : decode cX4_pass 39 = .ok (.aload_n 0, 1) := by decide +kernel
theorem dX4_pass_40 : decode cX4_pass 40 = .ok (.getfield 7, 3) := by decide +kernel
theorem dX4_pass_43 : decode cX4_pass 43 = .ok (.iconst 5, 1) := by decide +kernel
theorem dX4_pass_44 : decode cX4_pass 44 = .ok (.aload_n 0, 1) := by decide +kernel
theorem dX4_pass_45 : decode cX4_pass 45 = .ok (.iload_n 1, 1) := by decide +kernel
theorem dX4_pass_46 : decode cX4_pass 46 = .ok (.invokevirtual 70, 3) := by decide +kernel
theorem dX4_pass_49 : decode cX4_pass 49 = .ok (.iastore, 1) := by decide +kernel
theorem dX4_pass_50 : decode cX4_pass 50 = .ok (.return_, 1) := by decide +kernel
theorem dX4_pay_0 : decode cX4_pay 0 = .ok (.aload_n 0, 1) := by decide +kernel
theorem dX4_pay_1 : decode cX4_pay 1 = .ok (.getfield 7, 3) := by decide +kernel
theorem dX4_pay_4 : decode cX4_pay 4 = .ok (.bipush 8, 2) := by decide +kernel
theorem dX4_pay_6 : decode cX4_pay 6 = .ok (.iload_n 1, 1) := by decide +kernel
theorem dX4_pay_7 : decode cX4_pay 7 = .ok (.iadd, 1) := by decide +kernel
theorem dX4_pay_8 : decode cX4_pay 8 = .ok (.dup2, 1) := by decide +kernel
theorem dX4_pay_9 : decode cX4_pay 9 = .ok (.iaload, 1) := by decide +kernel
theorem dX4_pay_10 : decode cX4_pay 10 = .ok (.iload_n 2, 1) := by decide +kernel
theorem dX4_pay_11 : decode cX4_pay 11 = .ok (.isub, 1) := by decide +kernel
theorem dX4_pay_12 : decode cX4_pay 12 = .ok (.iastore, 1) := by decide +kernel
theorem dX4_pay_13 : decode cX4_pay 13 = .ok (.aload_n 0, 1) := by decide +kernel
theorem dX4_pay_14 : decode cX4_pay 14 = .ok (.getfield 7, 3) := by decide +kernel
theorem dX4_pay_17 : decode cX4_pay 17 = .ok (.bipush 33, 2) := by decide +kernel
theorem dX4_pay_19 : decode cX4_pay 19 = .ok (.iload_n 1, 1) := by decide +kernel
theorem dX4_pay_20 : decode cX4_pay 20 = .ok (.iadd, 1) := by decide +kernel
theorem dX4_pay_21 : decode cX4_pay 21 = .ok (.dup2, 1) := by decide +kernel
theorem dX4_pay_22 : decode cX4_pay 22 = .ok (.iaload, 1) := by decide +kernel
theorem dX4_pay_23 : decode cX4_pay 23 = .ok (.iload_n 2, 1) := by decide +kernel
theorem dX4_pay_24 : decode cX4_pay 24 = .ok (.iadd, 1) := by decide +kernel
theorem dX4_pay_25 : decode cX4_pay 25 = .ok (.iastore, 1) := by decide +kernel
theorem dX4_pay_26 : decode cX4_pay 26 = .ok (.return_, 1) := by decide +kernel
set_option maxRecDepth 20000 in
theorem ggX4_canBid_X4_least : GoodIn wsX4_canBid wsX4_least := goodIn_r _ [6, 1, 7, 8, 9, 10, 11, 12, 13, 14, 15, 16, 17, 18] (by decide +kernel) (by decide +kernel)
set_option maxRecDepth 20000 in
theorem gX4_canBid_X4_least : GoodIn wsX4_canBid (wsV RX4 73 RX4 yX4_least wsX4_least) := goodIn_app (goodIn_of _ (by decide +kernel)) ggX4_canBid_X4_least
theorem dX4_canBid_0 : decode cX4_canBid 0 = .ok (.iload_n 1, 1) := by decide +kernel
theorem dX4_canBid_1 : decode cX4_canBid 1 = .ok (.aload_n 0, 1) := by decide +kernel
theorem dX4_canBid_2 : decode cX4_canBid 2 = .ok (.invokevirtual 73, 3) := by decide +kernel
theorem dX4_canBid_5 : decode cX4_canBid 5 = .ok (.if_icmp .lt 25, 3) := by decide +kernel
theorem dX4_canBid_8 : decode cX4_canBid 8 = .ok (.iload_n 1, 1) := by decide +kernel
theorem dX4_canBid_9 : decode cX4_canBid 9 = .ok (.aload_n 0, 1) := by decide +kernel
theorem dX4_canBid_10 : decode cX4_canBid 10 = .ok (.getfield 7, 3) := by decide +kernel
theorem dX4_canBid_13 : decode cX4_canBid 13 = .ok (.bipush 8, 2) := by decide +kernel
theorem dX4_canBid_15 : decode cX4_canBid 15 = .ok (.aload_n 0, 1) := by decide +kernel
theorem dX4_canBid_16 : decode cX4_canBid 16 = .ok (.getfield 7, 3) := by decide +kernel
theorem dX4_canBid_19 : decode cX4_canBid 19 = .ok (.iconst 5, 1) := by decide +kernel
theorem dX4_canBid_20 : decode cX4_canBid 20 = .ok (.iaload, 1) := by decide +kernel
theorem dX4_canBid_21 : decode cX4_canBid 21 = .ok (.iadd, 1) := by decide +kernel
theorem dX4_canBid_22 : decode cX4_canBid 22 = .ok (.iaload, 1) := by decide +kernel
theorem dX4_canBid_23 : decode cX4_canBid 23 = .ok (.if_icmp .gt 7, 3) := by decide +kernel
theorem dX4_canBid_26 : decode cX4_canBid 26 = .ok (.iconst 1, 1) := by decide +kernel
theorem dX4_canBid_27 : decode cX4_canBid 27 = .ok (.goto 4, 3) := by decide +kernel
theorem dX4_canBid_30 : decode cX4_canBid 30 = .ok (.iconst 0, 1) := by decide +kernel
theorem dX4_canBid_31 : decode cX4_canBid 31 = .ok (.ireturn, 1) := by decide +kernel
set_option maxRecDepth 20000 in
theorem ggX4_bidNow_X4_pass : GoodIn wsX4_bidNow wsX4_pass := goodIn_r _ [6, 1, 7, 8, 9, 10, 5, 11, 12, 13, 14, 15, 16, 17, 18, 19, 20, 21, 22] (by decide +kernel) (by decide +kernel)
set_option maxRecDepth 20000 in
theorem gX4_bidNow_X4_pass : GoodIn wsX4_bidNow (wsV RX4 77 RX4 yX4_pass wsX4_pass) := goodIn_app (goodIn_of _ (by decide +kernel)) ggX4_bidNow_X4_pass
theorem dX4_bidNow_0 : decode cX4_bidNow 0 = .ok (.aload_n 0, 1) := by decide +kernel
theorem dX4_bidNow_1 : decode cX4_bidNow 1 = .ok (.getfield 7, 3) := by decide +kernel
theorem dX4_bidNow_4 : decode cX4_bidNow 4 = .ok (.bipush 23, 2) := by decide +kernel
theorem dX4_bidNow_6 : decode cX4_bidNow 6 = .ok (.aload_n 0, 1) := by decide +kernel
theorem dX4_bidNow_7 : decode cX4_bidNow 7 = .ok (.getfield 7, 3) := by decide +kernel
theorem dX4_bidNow_10 : decode cX4_bidNow 10 = .ok (.iconst 5, 1) := by decide +kernel
theorem dX4_bidNow_11 : decode cX4_bidNow 11 = .ok (.iaload, 1) := by decide +kernel
theorem dX4_bidNow_12 : decode cX4_bidNow 12 = .ok (.iadd, 1) := by decide +kernel
theorem dX4_bidNow_13 : decode cX4_bidNow 13 = .ok (.iload_n 1, 1) := by decide +kernel
theorem dX4_bidNow_14 : decode cX4_bidNow 14 = .ok (.iastore, 1) := by decide +kernel
theorem dX4_bidNow_15 : decode cX4_bidNow 15 = .ok (.aload_n 0, 1) := by decide +kernel
theorem dX4_bidNow_16 : decode cX4_bidNow 16 = .ok (.getfield 7, 3) := by decide +kernel
theorem dX4_bidNow_19 : decode cX4_bidNow 19 = .ok (.bipush 6, 2) := by decide +kernel
theorem dX4_bidNow_21 : decode cX4_bidNow 21 = .ok (.iload_n 1, 1) := by decide +kernel
theorem dX4_bidNow_22 : decode cX4_bidNow 22 = .ok (.iastore, 1) := by decide +kernel
theorem dX4_bidNow_23 : decode cX4_bidNow 23 = .ok (.aload_n 0, 1) := by decide +kernel
theorem dX4_bidNow_24 : decode cX4_bidNow 24 = .ok (.invokevirtual 77, 3) := by decide +kernel
theorem dX4_bidNow_27 : decode cX4_bidNow 27 = .ok (.return_, 1) := by decide +kernel
theorem dX4_left_0 : decode cX4_left 0 = .ok (.iconst 0, 1) := by decide +kernel
theorem dX4_left_1 : decode cX4_left 1 = .ok (.istore_n 1, 1) := by decide +kernel
theorem dX4_left_2 : decode cX4_left 2 = .ok (.iconst 0, 1) := by decide +kernel
theorem dX4_left_3 : decode cX4_left 3 = .ok (.istore_n 2, 1) := by decide +kernel
theorem dX4_left_4 : decode cX4_left 4 = .ok (.iload_n 2, 1) := by decide +kernel
theorem dX4_left_5 : decode cX4_left 5 = .ok (.iconst 5, 1) := by decide +kernel
theorem dX4_left_6 : decode cX4_left 6 = .ok (.if_icmp .ge 31, 3) := by decide +kernel
theorem dX4_left_9 : decode cX4_left 9 = .ok (.iload_n 1, 1) := by decide +kernel
theorem dX4_left_10 : decode cX4_left 10 = .ok (.aload_n 0, 1) := by decide +kernel
theorem dX4_left_11 : decode cX4_left 11 = .ok (.getfield 7, 3) := by decide +kernel
theorem dX4_left_14 : decode cX4_left 14 = .ok (.bipush 28, 2) := by decide +kernel
theorem dX4_left_16 : decode cX4_left 16 = .ok (.iload_n 2, 1) := by decide +kernel
theorem dX4_left_17 : decode cX4_left 17 = .ok (.iadd, 1) := by decide +kernel
theorem dX4_left_18 : decode cX4_left 18 = .ok (.iaload, 1) := by decide +kernel
theorem dX4_left_19 : decode cX4_left 19 = .ok (.ldc 39, 2) := by decide +kernel
theorem dX4_left_21 : decode cX4_left 21 = .ok (.if_icmp .ne 7, 3) := by decide +kernel
theorem dX4_left_24 : decode cX4_left 24 = .ok (.iconst 1, 1) := by decide +kernel
theorem dX4_left_25 : decode cX4_left 25 = .ok (.goto 4, 3) := by decide +kernel
theorem dX4_left_28 : decode cX4_left 28 = .ok (.iconst 0, 1) := by decide +kernel
theorem dX4_left_29 : decode cX4_left 29 = .ok (.iadd, 1) := by decide +kernel
theorem dX4_left_30 : decode cX4_left 30 = .ok (.istore_n 1, 1) := by decide +kernel
theorem dX4_left_31 : decode cX4_left 31 = .ok (.iinc 2 1, 3) := by decide +kernel
theorem dX4_left_34 : decode cX4_left 34 = .ok (.goto (-30), 3) := by decide +kernel
theorem dX4_left_37 : decode cX4_left 37 = .ok (.iload_n 1, 1) := by decide +kernel
theorem dX4_left_38 : decode cX4_left 38 = .ok (.ireturn, 1) := by decide +kernel
theorem dX4_prizeAt_0 : decode cX4_prizeAt 0 = .ok (.iconst 0, 1) := by decide +kernel
theorem dX4_prizeAt_1 : decode cX4_prizeAt 1 = .ok (.istore_n 2, 1) := by decide +kernel
theorem dX4_prizeAt_2 : decode cX4_prizeAt 2 = .ok (.iconst 0, 1) := by decide +kernel
theorem dX4_prizeAt_3 : decode cX4_prizeAt 3 = .ok (.istore_n 3, 1) := by decide +kernel
theorem dX4_prizeAt_4 : decode cX4_prizeAt 4 = .ok (.iload_n 3, 1) := by decide +kernel
theorem dX4_prizeAt_5 : decode cX4_prizeAt 5 = .ok (.iconst 5, 1) := by decide +kernel
theorem dX4_prizeAt_6 : decode cX4_prizeAt 6 = .ok (.if_icmp .ge 107, 3) := by decide +kernel
theorem dX4_prizeAt_9 : decode cX4_prizeAt 9 = .ok (.iconst 0, 1) := by decide +kernel
theorem dX4_prizeAt_10 : decode cX4_prizeAt 10 = .ok (.istore 4, 2) := by decide +kernel
theorem dX4_prizeAt_12 : decode cX4_prizeAt 12 = .ok (.iconst 0, 1) := by decide +kernel
theorem dX4_prizeAt_13 : decode cX4_prizeAt 13 = .ok (.istore 5, 2) := by decide +kernel
theorem dX4_prizeAt_15 : decode cX4_prizeAt 15 = .ok (.iload 5, 2) := by decide +kernel
theorem dX4_prizeAt_17 : decode cX4_prizeAt 17 = .ok (.iconst 5, 1) := by decide +kernel
theorem dX4_prizeAt_18 : decode cX4_prizeAt 18 = .ok (.if_icmp .ge 69, 3) := by decide +kernel
theorem dX4_prizeAt_21 : decode cX4_prizeAt 21 = .ok (.iload 4, 2) := by decide +kernel
theorem dX4_prizeAt_23 : decode cX4_prizeAt 23 = .ok (.aload_n 0, 1) := by decide +kernel
theorem dX4_prizeAt_24 : decode cX4_prizeAt 24 = .ok (.getfield 7, 3) := by decide +kernel
theorem dX4_prizeAt_27 : decode cX4_prizeAt 27 = .ok (.bipush 48, 2) := by decide +kernel
theorem dX4_prizeAt_29 : decode cX4_prizeAt 29 = .ok (.iload 5, 2) := by decide +kernel
theorem dX4_prizeAt_31 : decode cX4_prizeAt 31 = .ok (.iadd, 1) := by decide +kernel
theorem dX4_prizeAt_32 : decode cX4_prizeAt 32 = .ok (.iaload, 1) := by decide +kernel
theorem dX4_prizeAt_33 : decode cX4_prizeAt 33 = .ok (.aload_n 0, 1) := by decide +kernel
theorem dX4_prizeAt_34 : decode cX4_prizeAt 34 = .ok (.getfield 7, 3) := by decide +kernel
theorem dX4_prizeAt_37 : decode cX4_prizeAt 37 = .ok (.bipush 48, 2) := by decide +kernel
theorem dX4_prizeAt_39 : decode cX4_prizeAt 39 = .ok (.iload_n 3, 1) := by decide +kernel
theorem dX4_prizeAt_40 : decode cX4_prizeAt 40 = .ok (.iadd, 1) := by decide +kernel
theorem dX4_prizeAt_41 : decode cX4_prizeAt 41 = .ok (.iaload, 1) := by decide +kernel
theorem dX4_prizeAt_42 : decode cX4_prizeAt 42 = .ok (.if_icmp .gt 31, 3) := by decide +kernel
theorem dX4_prizeAt_45 : decode cX4_prizeAt 45 = .ok (.aload_n 0, 1) := by decide +kernel
theorem dX4_prizeAt_46 : decode cX4_prizeAt 46 = .ok (.getfield 7, 3) := by decide +kernel
theorem dX4_prizeAt_49 : decode cX4_prizeAt 49 = .ok (.bipush 48, 2) := by decide +kernel
theorem dX4_prizeAt_51 : decode cX4_prizeAt 51 = .ok (.iload 5, 2) := by decide +kernel
theorem dX4_prizeAt_53 : decode cX4_prizeAt 53 = .ok (.iadd, 1) := by decide +kernel
theorem dX4_prizeAt_54 : decode cX4_prizeAt 54 = .ok (.iaload, 1) := by decide +kernel
theorem dX4_prizeAt_55 : decode cX4_prizeAt 55 = .ok (.aload_n 0, 1) := by decide +kernel
theorem dX4_prizeAt_56 : decode cX4_prizeAt 56 = .ok (.getfield 7, 3) := by decide +kernel
theorem dX4_prizeAt_59 : decode cX4_prizeAt 59 = .ok (.bipush 48, 2) := by decide +kernel
theorem dX4_prizeAt_61 : decode cX4_prizeAt 61 = .ok (.iload_n 3, 1) := by decide +kernel
theorem dX4_prizeAt_62 : decode cX4_prizeAt 62 = .ok (.iadd, 1) := by decide +kernel
theorem dX4_prizeAt_63 : decode cX4_prizeAt 63 = .ok (.iaload, 1) := by decide +kernel
theorem dX4_prizeAt_64 : decode cX4_prizeAt 64 = .ok (.if_icmp .ne 13, 3) := by decide +kernel
theorem dX4_prizeAt_67 : decode cX4_prizeAt 67 = .ok (.iload 5, 2) := by decide +kernel
theorem dX4_prizeAt_69 : decode cX4_prizeAt 69 = .ok (.iload_n 3, 1) := by decide +kernel
theorem dX4_prizeAt_70 : decode cX4_prizeAt 70 = .ok (.if_icmp .ge 7, 3) := by decide +kernel
theorem dX4_prizeAt_73 : decode cX4_prizeAt 73 = .ok (.iconst 1, 1) := by decide +kernel
theorem dX4_prizeAt_74 : decode cX4_prizeAt 74 = .ok (.goto 4, 3) := by decide +kernel
theorem dX4_prizeAt_77 : decode cX4_prizeAt 77 = .ok (.iconst 0, 1) := by decide +kernel
theorem dX4_prizeAt_78 : decode cX4_prizeAt 78 = .ok (.iadd, 1) := by decide +kernel
theorem dX4_prizeAt_79 : decode cX4_prizeAt 79 = .ok (.istore 4, 2) := by decide +kernel
theorem dX4_prizeAt_81 : decode cX4_prizeAt 81 = .ok (.iinc 5 1, 3) := by decide +kernel
theorem dX4_prizeAt_84 : decode cX4_prizeAt 84 = .ok (.goto (-69), 3) := by decide +kernel
theorem dX4_prizeAt_87 : decode cX4_prizeAt 87 = .ok (.iload 4, 2) := by decide +kernel
theorem dX4_prizeAt_89 : decode cX4_prizeAt 89 = .ok (.iload_n 1, 1) := by decide +kernel
theorem dX4_prizeAt_90 : decode cX4_prizeAt 90 = .ok (.if_icmp .ne 15, 3) := by decide +kernel
theorem dX4_prizeAt_93 : decode cX4_prizeAt 93 = .ok (.aload_n 0, 1) := by decide +kernel
theorem dX4_prizeAt_94 : decode cX4_prizeAt 94 = .ok (.getfield 7, 3) := by decide +kernel
theorem dX4_prizeAt_97 : decode cX4_prizeAt 97 = .ok (.bipush 48, 2) := by decide +kernel
theorem dX4_prizeAt_99 : decode cX4_prizeAt 99 = .ok (.iload_n 3, 1) := by decide +kernel
theorem dX4_prizeAt_100 : decode cX4_prizeAt 100 = .ok (.iadd, 1) := by decide +kernel
theorem dX4_prizeAt_101 : decode cX4_prizeAt 101 = .ok (.iaload, 1) := by decide +kernel
theorem dX4_prizeAt_102 : decode cX4_prizeAt 102 = .ok (.goto 4, 3) := by decide +kernel
theorem dX4_prizeAt_105 : decode cX4_prizeAt 105 = .ok (.iload_n 2, 1) := by decide +kernel
theorem dX4_prizeAt_106 : decode cX4_prizeAt 106 = .ok (.istore_n 2, 1) := by decide +kernel
theorem dX4_prizeAt_107 : decode cX4_prizeAt 107 = .ok (.iinc 3 1, 3) := by decide +kernel
theorem dX4_prizeAt_110 : decode cX4_prizeAt 110 = .ok (.goto (-106), 3) := by decide +kernel
theorem dX4_prizeAt_113 : decode cX4_prizeAt 113 = .ok (.iload_n 2, 1) := by decide +kernel
theorem dX4_prizeAt_114 : decode cX4_prizeAt 114 = .ok (.ireturn, 1) := by decide +kernel
set_option maxRecDepth 20000 in
theorem ggX4_dropNow_X4_left : GoodIn wsX4_dropNow wsX4_left := goodIn_r _ [7, 1, 2, 32, 33, 34, 35, 36, 37, 38, 39, 40, 41, 42] (by decide +kernel) (by decide +kernel)
set_option maxRecDepth 20000 in
theorem gX4_dropNow_X4_left : GoodIn wsX4_dropNow (wsV RX4 80 RX4 yX4_left wsX4_left) := goodIn_app (goodIn_of _ (by decide +kernel)) ggX4_dropNow_X4_left
set_option maxRecDepth 20000 in
theorem ggX4_dropNow_X4_pay : GoodIn wsX4_dropNow wsX4_pay := goodIn_r _ [11, 1, 32, 33, 34, 35, 36, 37, 38, 39, 40, 41, 42] (by decide +kernel) (by decide +kernel)
set_option maxRecDepth 20000 in
theorem gX4_dropNow_X4_pay : GoodIn wsX4_dropNow (wsV RX4 83 RX4 yX4_pay wsX4_pay) := goodIn_app (goodIn_of _ (by decide +kernel)) ggX4_dropNow_X4_pay
set_option maxRecDepth 20000 in
theorem ggX4_dropNow_X4_pass : GoodIn wsX4_dropNow wsX4_pass := goodIn_r _ [15, 1, 2, 16, 17, 18, 6, 19, 32, 33, 34, 35, 36, 37, 38, 39, 40, 41, 42] (by decide +kernel) (by decide +kernel)
set_option maxRecDepth 20000 in
theorem gX4_dropNow_X4_pass : GoodIn wsX4_dropNow (wsV RX4 77 RX4 yX4_pass wsX4_pass) := goodIn_app (goodIn_of _ (by decide +kernel)) ggX4_dropNow_X4_pass
set_option maxRecDepth 20000 in
theorem ggX4_dropNow_X4_endNow : GoodIn wsX4_dropNow wsX4_endNow := goodIn_r _ [23, 1, 2, 8, 9, 10, 6, 11, 24, 25, 26, 27, 28, 29, 30, 31, 32, 33, 34, 35, 36, 37, 38, 39, 40, 41, 42] (by decide +kernel) (by decide +kernel)
set_option maxRecDepth 20000 in
theorem gX4_dropNow_X4_endNow : GoodIn wsX4_dropNow (wsV RX4 87 RX4 yX4_endNow wsX4_endNow) := goodIn_app (goodIn_of _ (by decide +kernel)) ggX4_dropNow_X4_endNow
theorem dX4_dropNow_0 : decode cX4_dropNow 0 = .ok (.aload_n 0, 1) := by decide +kernel
theorem dX4_dropNow_1 : decode cX4_dropNow 1 = .ok (.getfield 7, 3) := by decide +kernel
theorem dX4_dropNow_4 : decode cX4_dropNow 4 = .ok (.iconst 5, 1) := by decide +kernel
theorem dX4_dropNow_5 : decode cX4_dropNow 5 = .ok (.iaload, 1) := by decide +kernel
theorem dX4_dropNow_6 : decode cX4_dropNow 6 = .ok (.istore_n 1, 1) := by decide +kernel
theorem dX4_dropNow_7 : decode cX4_dropNow 7 = .ok (.aload_n 0, 1) := by decide +kernel
theorem dX4_dropNow_8 : decode cX4_dropNow 8 = .ok (.invokevirtual 80, 3) := by decide +kernel
theorem dX4_dropNow_11 : decode cX4_dropNow 11 = .ok (.iconst 1, 1) := by decide +kernel
theorem dX4_dropNow_12 : decode cX4_dropNow 12 = .ok (.isub, 1) := by decide +kernel
theorem dX4_dropNow_13 : decode cX4_dropNow 13 = .ok (.istore_n 2, 1) := by decide +kernel
theorem dX4_dropNow_14 : decode cX4_dropNow 14 = .ok (.aload_n 0, 1) := by decide +kernel
theorem dX4_dropNow_15 : decode cX4_dropNow 15 = .ok (.getfield 7, 3) := by decide +kernel
theorem dX4_dropNow_18 : decode cX4_dropNow 18 = .ok (.bipush 23, 2) := by decide +kernel
theorem dX4_dropNow_20 : decode cX4_dropNow 20 = .ok (.iload_n 1, 1) := by decide +kernel
theorem dX4_dropNow_21 : decode cX4_dropNow 21 = .ok (.iadd, 1) := by decide +kernel
theorem dX4_dropNow_22 : decode cX4_dropNow 22 = .ok (.iaload, 1) := by decide +kernel
theorem dX4_dropNow_23 : decode cX4_dropNow 23 = .ok (.ldc 39, 2) := by decide +kernel
theorem dX4_dropNow_25 : decode cX4_dropNow 25 = .ok (.if_icmp .eq 27, 3) := by decide +kernel
theorem dX4_dropNow_28 : decode cX4_dropNow 28 = .ok (.aload_n 0, 1) := by decide +kernel
theorem dX4_dropNow_29 : decode cX4_dropNow 29 = .ok (.iload_n 1, 1) := by decide +kernel
theorem dX4_dropNow_30 : decode cX4_dropNow 30 = .ok (.aload_n 0, 1) := by decide +kernel
theorem dX4_dropNow_31 : decode cX4_dropNow 31 = .ok (.getfield 7, 3) := by decide +kernel
theorem dX4_dropNow_34 : decode cX4_dropNow 34 = .ok (.bipush 23, 2) := by decide +kernel
theorem dX4_dropNow_36 : decode cX4_dropNow 36 = .ok (.iload_n 1, 1) := by decide +kernel
theorem dX4_dropNow_37 : decode cX4_dropNow 37 = .ok (.iadd, 1) := by decide +kernel
theorem dX4_dropNow_38 : decode cX4_dropNow 38 = .ok (.iaload, 1) := by decide +kernel
theorem dX4_dropNow_39 : decode cX4_dropNow 39 = .ok (.aload_n 0, 1) := by decide +kernel
theorem dX4_dropNow_40 : decode cX4_dropNow 40 = .ok (.getfield 7, 3) := by decide +kernel
theorem dX4_dropNow_43 : decode cX4_dropNow 43 = .ok (.iconst 3, 1) := by decide +kernel
theorem dX4_dropNow_44 : decode cX4_dropNow 44 = .ok (.iaload, 1) := by decide +kernel
theorem dX4_dropNow_45 : decode cX4_dropNow 45 = .ok (.imul, 1) := by decide +kernel
theorem dX4_dropNow_46 : decode cX4_dropNow 46 = .ok (.bipush 100, 2) := by decide +kernel
theorem dX4_dropNow_48 : decode cX4_dropNow 48 = .ok (.idiv, 1) := by decide +kernel
theorem dX4_dropNow_49 : decode cX4_dropNow 49 = .ok (.invokevirtual 83, 3) := by decide +kernel
theorem dX4_dropNow_52 : decode cX4_dropNow 52 = .ok (.iload_n 2, 1) := by decide +kernel
theorem dX4_dropNow_53 : decode cX4_dropNow 53 = .ok (.iconst 1, 1) := by decide +kernel
theorem dX4_dropNow_54 : decode cX4_dropNow 54 = .ok (.if_icmp .le 18, 3) := by decide +kernel
theorem dX4_dropNow_57 : decode cX4_dropNow 57 = .ok (.aload_n 0, 1) := by decide +kernel
theorem dX4_dropNow_58 : decode cX4_dropNow 58 = .ok (.getfield 7, 3) := by decide +kernel
theorem dX4_dropNow_61 : decode cX4_dropNow 61 = .ok (.bipush 28, 2) := by decide +kernel
theorem dX4_dropNow_63 : decode cX4_dropNow 63 = .ok (.iload_n 1, 1) := by decide +kernel
theorem dX4_dropNow_64 : decode cX4_dropNow 64 = .ok (.iadd, 1) := by decide +kernel
theorem dX4_dropNow_65 : decode cX4_dropNow 65 = .ok (.iload_n 2, 1) := by decide +kernel
theorem dX4_dropNow_66 : decode cX4_dropNow 66 = .ok (.iastore, 1) := by decide +kernel
theorem dX4_dropNow_67 : decode cX4_dropNow 67 = .ok (.aload_n 0, 1) := by decide +kernel
theorem dX4_dropNow_68 : decode cX4_dropNow 68 = .ok (.invokevirtual 77, 3) := by decide +kernel
theorem dX4_dropNow_71 : decode cX4_dropNow 71 = .ok (.return_, 1) := by decide +kernel
theorem dX4_dropNow_72 : decode cX4_dropNow 72 = .ok (.aload_n 0, 1) := by decide +kernel
theorem dX4_dropNow_73 : decode cX4_dropNow 73 = .ok (.invokevirtual 77, 3) := by decide +kernel
theorem dX4_dropNow_76 : decode cX4_dropNow 76 = .ok (.aload_n 0, 1) := by decide +kernel
theorem dX4_dropNow_77 : decode cX4_dropNow 77 = .ok (.getfield 7, 3) := by decide +kernel
theorem dX4_dropNow_80 : decode cX4_dropNow 80 = .ok (.bipush 28, 2) := by decide +kernel
theorem dX4_dropNow_82 : decode cX4_dropNow 82 = .ok (.iload_n 1, 1) := by decide +kernel
theorem dX4_dropNow_83 : decode cX4_dropNow 83 = .ok (.iadd, 1) := by decide +kernel
theorem dX4_dropNow_84 : decode cX4_dropNow 84 = .ok (.iload_n 2, 1) := by decide +kernel
theorem dX4_dropNow_85 : decode cX4_dropNow 85 = .ok (.iastore, 1) := by decide +kernel
theorem dX4_dropNow_86 : decode cX4_dropNow 86 = .ok (.aload_n 0, 1) := by decide +kernel
theorem dX4_dropNow_87 : decode cX4_dropNow 87 = .ok (.aload_n 0, 1) := by decide +kernel
theorem dX4_dropNow_88 : decode cX4_dropNow 88 = .ok (.getfield 7, 3) := by decide +kernel
theorem dX4_dropNow_91 : decode cX4_dropNow 91 = .ok (.iconst 5, 1) := by decide +kernel
theorem dX4_dropNow_92 : decode cX4_dropNow 92 = .ok (.iaload, 1) := by decide +kernel
theorem dX4_dropNow_93 : decode cX4_dropNow 93 = .ok (.invokevirtual 87, 3) := by decide +kernel
theorem dX4_dropNow_96 : decode cX4_dropNow 96 = .ok (.return_, 1) := by decide +kernel
set_option maxRecDepth 20000 in
theorem ggX4_endNow_X4_pay : GoodIn wsX4_endNow wsX4_pay := goodIn_r _ [7, 1, 16, 17, 18, 19, 20, 21, 22, 23, 24, 25, 26] (by decide +kernel) (by decide +kernel)
set_option maxRecDepth 20000 in
theorem gX4_endNow_X4_pay : GoodIn wsX4_endNow (wsV RX4 83 RX4 yX4_pay wsX4_pay) := goodIn_app (goodIn_of _ (by decide +kernel)) ggX4_endNow_X4_pay
set_option maxRecDepth 20000 in
theorem ggX4_endNow_X4_prizeAt : GoodIn wsX4_endNow wsX4_prizeAt := goodIn_r _ [11, 1, 16, 17, 18, 19, 20, 21, 22, 23, 24, 25, 26] (by decide +kernel) (by decide +kernel)
set_option maxRecDepth 20000 in
theorem gX4_endNow_X4_prizeAt : GoodIn wsX4_endNow (wsV RX4 91 RX4 yX4_prizeAt wsX4_prizeAt) := goodIn_app (goodIn_of _ (by decide +kernel)) ggX4_endNow_X4_prizeAt
set_option maxRecDepth 20000 in
theorem ggX4_endNow_X4_clearAuction : GoodIn wsX4_endNow wsX4_clearAuction := goodIn_r _ [15, 1, 2, 16, 17, 18, 19, 20, 21, 22, 23, 24, 25, 26] (by decide +kernel) (by decide +kernel)
set_option maxRecDepth 20000 in
theorem gX4_endNow_X4_clearAuction : GoodIn wsX4_endNow (wsV RX4 32 RX4 yX4_clearAuction wsX4_clearAuction) := goodIn_app (goodIn_of _ (by decide +kernel)) ggX4_endNow_X4_clearAuction
theorem dX4_endNow_0 : decode cX4_endNow 0 = .ok (.aload_n 0, 1) := by decide +kernel
theorem dX4_endNow_1 : decode cX4_endNow 1 = .ok (.getfield 7, 3) := by decide +kernel
theorem dX4_endNow_4 : decode cX4_endNow 4 = .ok (.bipush 23, 2) := by decide +kernel
theorem dX4_endNow_6 : decode cX4_endNow 6 = .ok (.iload_n 1, 1) := by decide +kernel
theorem dX4_endNow_7 : decode cX4_endNow 7 = .ok (.iadd, 1) := by decide +kernel
theorem dX4_endNow_8 : decode cX4_endNow 8 = .ok (.iaload, 1) := by decide +kernel
theorem dX4_endNow_9 : decode cX4_endNow 9 = .ok (.ldc 39, 2) := by decide +kernel
theorem dX4_endNow_11 : decode cX4_endNow 11 = .ok (.if_icmp .eq 30, 3) := by decide +kernel
theorem dX4_endNow_14 : decode cX4_endNow 14 = .ok (.aload_n 0, 1) := by decide +kernel
theorem dX4_endNow_15 : decode cX4_endNow 15 = .ok (.iload_n 1, 1) := by decide +kernel
theorem dX4_endNow_16 : decode cX4_endNow 16 = .ok (.aload_n 0, 1) := by decide +kernel
theorem dX4_endNow_17 : decode cX4_endNow 17 = .ok (.getfield 7, 3) := by decide +kernel
theorem dX4_endNow_20 : decode cX4_endNow 20 = .ok (.bipush 23, 2) := by decide +kernel
theorem dX4_endNow_22 : decode cX4_endNow 22 = .ok (.iload_n 1, 1) := by decide +kernel
theorem dX4_endNow_23 : decode cX4_endNow 23 = .ok (.iadd, 1) := by decide +kernel
theorem dX4_endNow_24 : decode cX4_endNow 24 = .ok (.iaload, 1) := by decide +kernel
theorem dX4_endNow_25 : decode cX4_endNow 25 = .ok (.aload_n 0, 1) := by decide +kernel
theorem dX4_endNow_26 : decode cX4_endNow 26 = .ok (.getfield 7, 3) := by decide +kernel
theorem dX4_endNow_29 : decode cX4_endNow 29 = .ok (.iconst 2, 1) := by decide +kernel
theorem dX4_endNow_30 : decode cX4_endNow 30 = .ok (.iaload, 1) := by decide +kernel
theorem dX4_endNow_31 : decode cX4_endNow 31 = .ok (.imul, 1) := by decide +kernel
theorem dX4_endNow_32 : decode cX4_endNow 32 = .ok (.bipush 99, 2) := by decide +kernel
theorem dX4_endNow_34 : decode cX4_endNow 34 = .ok (.iadd, 1) := by decide +kernel
theorem dX4_endNow_35 : decode cX4_endNow 35 = .ok (.bipush 100, 2) := by decide +kernel
theorem dX4_endNow_37 : decode cX4_endNow 37 = .ok (.idiv, 1) := by decide +kernel
theorem dX4_endNow_38 : decode cX4_endNow 38 = .ok (.invokevirtual 83, 3) := by decide +kernel
theorem dX4_endNow_41 : decode cX4_endNow 41 = .ok (.aload_n 0, 1) := by decide +kernel
theorem dX4_endNow_42 : decode cX4_endNow 42 = .ok (.getfield 7, 3) := by decide +kernel
theorem dX4_endNow_45 : decode cX4_endNow 45 = .ok (.bipush 28, 2) := by decide +kernel
theorem dX4_endNow_47 : decode cX4_endNow 47 = .ok (.iload_n 1, 1) := by decide +kernel
theorem dX4_endNow_48 : decode cX4_endNow 48 = .ok (.iadd, 1) := by decide +kernel
theorem dX4_endNow_49 : decode cX4_endNow 49 = .ok (.iconst 0, 1) := by decide +kernel
theorem dX4_endNow_50 : decode cX4_endNow 50 = .ok (.iastore, 1) := by decide +kernel
theorem dX4_endNow_51 : decode cX4_endNow 51 = .ok (.aload_n 0, 1) := by decide +kernel
theorem dX4_endNow_52 : decode cX4_endNow 52 = .ok (.getfield 7, 3) := by decide +kernel
theorem dX4_endNow_55 : decode cX4_endNow 55 = .ok (.bipush 43, 2) := by decide +kernel
theorem dX4_endNow_57 : decode cX4_endNow 57 = .ok (.iload_n 1, 1) := by decide +kernel
theorem dX4_endNow_58 : decode cX4_endNow 58 = .ok (.iadd, 1) := by decide +kernel
theorem dX4_endNow_59 : decode cX4_endNow 59 = .ok (.dup2, 1) := by decide +kernel
theorem dX4_endNow_60 : decode cX4_endNow 60 = .ok (.iaload, 1) := by decide +kernel
theorem dX4_endNow_61 : decode cX4_endNow 61 = .ok (.iconst 1, 1) := by decide +kernel
theorem dX4_endNow_62 : decode cX4_endNow 62 = .ok (.iadd, 1) := by decide +kernel
theorem dX4_endNow_63 : decode cX4_endNow 63 = .ok (.iastore, 1) := by decide +kernel
theorem dX4_endNow_64 : decode cX4_endNow 64 = .ok (.iconst 0, 1) := by decide +kernel
theorem dX4_endNow_65 : decode cX4_endNow 65 = .ok (.istore_n 2, 1) := by decide +kernel
theorem dX4_endNow_66 : decode cX4_endNow 66 = .ok (.iload_n 2, 1) := by decide +kernel
theorem dX4_endNow_67 : decode cX4_endNow 67 = .ok (.iconst 5, 1) := by decide +kernel
theorem dX4_endNow_68 : decode cX4_endNow 68 = .ok (.if_icmp .ge 92, 3) := by decide +kernel
theorem dX4_endNow_71 : decode cX4_endNow 71 = .ok (.aload_n 0, 1) := by decide +kernel
theorem dX4_endNow_72 : decode cX4_endNow 72 = .ok (.aload_n 0, 1) := by decide +kernel
theorem dX4_endNow_73 : decode cX4_endNow 73 = .ok (.getfield 7, 3) := by decide +kernel
theorem dX4_endNow_76 : decode cX4_endNow 76 = .ok (.bipush 28, 2) := by decide +kernel
theorem dX4_endNow_78 : decode cX4_endNow 78 = .ok (.iload_n 2, 1) := by decide +kernel
theorem dX4_endNow_79 : decode cX4_endNow 79 = .ok (.iadd, 1) := by decide +kernel
theorem dX4_endNow_80 : decode cX4_endNow 80 = .ok (.iaload, 1) := by decide +kernel
theorem dX4_endNow_81 : decode cX4_endNow 81 = .ok (.invokevirtual 91, 3) := by decide +kernel
theorem dX4_endNow_84 : decode cX4_endNow 84 = .ok (.istore_n 3, 1) := by decide +kernel
theorem dX4_endNow_85 : decode cX4_endNow 85 = .ok (.aload_n 0, 1) := by decide +kernel
theorem dX4_endNow_86 : decode cX4_endNow 86 = .ok (.getfield 7, 3) := by decide +kernel
theorem dX4_endNow_89 : decode cX4_endNow 89 = .ok (.bipush 8, 2) := by decide +kernel
theorem dX4_endNow_91 : decode cX4_endNow 91 = .ok (.iload_n 2, 1) := by decide +kernel
theorem dX4_endNow_92 : decode cX4_endNow 92 = .ok (.iadd, 1) := by decide +kernel
theorem dX4_endNow_93 : decode cX4_endNow 93 = .ok (.iaload, 1) := by decide +kernel
theorem dX4_endNow_94 : decode cX4_endNow 94 = .ok (.iload_n 3, 1) := by decide +kernel
theorem dX4_endNow_95 : decode cX4_endNow 95 = .ok (.iadd, 1) := by decide +kernel
theorem dX4_endNow_96 : decode cX4_endNow 96 = .ok (.istore 4, 2) := by decide +kernel
theorem dX4_endNow_98 : decode cX4_endNow 98 = .ok (.aload_n 0, 1) := by decide +kernel
theorem dX4_endNow_99 : decode cX4_endNow 99 = .ok (.getfield 7, 3) := by decide +kernel
theorem dX4_endNow_102 : decode cX4_endNow 102 = .ok (.bipush 18, 2) := by decide +kernel
theorem dX4_endNow_104 : decode cX4_endNow 104 = .ok (.iload_n 2, 1) := by decide +kernel
theorem dX4_endNow_105 : decode cX4_endNow 105 = .ok (.iadd, 1) := by decide +kernel
theorem dX4_endNow_106 : decode cX4_endNow 106 = .ok (.aload_n 0, 1) := by decide +kernel
theorem dX4_endNow_107 : decode cX4_endNow 107 = .ok (.getfield 7, 3) := by decide +kernel
theorem dX4_endNow_110 : decode cX4_endNow 110 = .ok (.bipush 28, 2) := by decide +kernel
theorem dX4_endNow_112 : decode cX4_endNow 112 = .ok (.iload_n 2, 1) := by decide +kernel
theorem dX4_endNow_113 : decode cX4_endNow 113 = .ok (.iadd, 1) := by decide +kernel
theorem dX4_endNow_114 : decode cX4_endNow 114 = .ok (.iaload, 1) := by decide +kernel
theorem dX4_endNow_115 : decode cX4_endNow 115 = .ok (.iastore, 1) := by decide +kernel
theorem dX4_endNow_116 : decode cX4_endNow 116 = .ok (.aload_n 0, 1) := by decide +kernel
theorem dX4_endNow_117 : decode cX4_endNow 117 = .ok (.getfield 7, 3) := by decide +kernel
theorem dX4_endNow_120 : decode cX4_endNow 120 = .ok (.bipush 8, 2) := by decide +kernel
theorem dX4_endNow_122 : decode cX4_endNow 122 = .ok (.iload_n 2, 1) := by decide +kernel
theorem dX4_endNow_123 : decode cX4_endNow 123 = .ok (.iadd, 1) := by decide +kernel
theorem dX4_endNow_124 : decode cX4_endNow 124 = .ok (.iload 4, 2) := by decide +kernel
theorem dX4_endNow_126 : decode cX4_endNow 126 = .ok (.sipush 9999, 3) := by decide +kernel
theorem dX4_endNow_129 : decode cX4_endNow 129 = .ok (.if_icmp .le 9, 3) := by decide +kernel
theorem dX4_endNow_132 : decode cX4_endNow 132 = .ok (.sipush 9999, 3) := by decide +kernel
theorem dX4_endNow_135 : decode cX4_endNow 135 = .ok (.goto 5, 3) := by decide +kernel
theorem dX4_endNow_138 : decode cX4_endNow 138 = .ok (.iload 4, 2) := by decide +kernel
theorem dX4_endNow_140 : decode cX4_endNow 140 = .ok (.iastore, 1) := by decide +kernel
theorem dX4_endNow_141 : decode cX4_endNow 141 = .ok (.aload_n 0, 1) := by decide +kernel
theorem dX4_endNow_142 : decode cX4_endNow 142 = .ok (.getfield 7, 3) := by decide +kernel
theorem dX4_endNow_145 : decode cX4_endNow 145 = .ok (.bipush 38, 2) := by decide +kernel
theorem dX4_endNow_147 : decode cX4_endNow 147 = .ok (.iload_n 2, 1) := by decide +kernel
theorem dX4_endNow_148 : decode cX4_endNow 148 = .ok (.iadd, 1) := by decide +kernel
theorem dX4_endNow_149 : decode cX4_endNow 149 = .ok (.dup2, 1) := by decide +kernel
theorem dX4_endNow_150 : decode cX4_endNow 150 = .ok (.iaload, 1) := by decide +kernel
theorem dX4_endNow_151 : decode cX4_endNow 151 = .ok (.iload_n 3, 1) := by decide +kernel
theorem dX4_endNow_152 : decode cX4_endNow 152 = .ok (.iadd, 1) := by decide +kernel
theorem dX4_endNow_153 : decode cX4_endNow 153 = .ok (.iastore, 1) := by decide +kernel
theorem dX4_endNow_154 : decode cX4_endNow 154 = .ok (.iinc 2 1, 3) := by decide +kernel
theorem dX4_endNow_157 : decode cX4_endNow 157 = .ok (.goto (-91), 3) := by decide +kernel
theorem dX4_endNow_160 : decode cX4_endNow 160 = .ok (.aload_n 0, 1) := by decide +kernel
theorem dX4_endNow_161 : decode cX4_endNow 161 = .ok (.getfield 7, 3) := by decide +kernel
theorem dX4_endNow_164 : decode cX4_endNow 164 = .ok (.bipush 7, 2) := by decide +kernel
theorem dX4_endNow_166 : decode cX4_endNow 166 = .ok (.dup2, 1) := by decide +kernel
theorem dX4_endNow_167 : decode cX4_endNow 167 = .ok (.iaload, 1) := by decide +kernel
theorem dX4_endNow_168 : decode cX4_endNow 168 = .ok (.iconst 1, 1) := by decide +kernel
theorem dX4_endNow_169 : decode cX4_endNow 169 = .ok (.iadd, 1) := by decide +kernel
theorem dX4_endNow_170 : decode cX4_endNow 170 = .ok (.iastore, 1) := by decide +kernel
theorem dX4_endNow_171 : decode cX4_endNow 171 = .ok (.aload_n 0, 1) := by decide +kernel
theorem dX4_endNow_172 : decode cX4_endNow 172 = .ok (.invokevirtual 32, 3) := by decide +kernel
theorem dX4_endNow_175 : decode cX4_endNow 175 = .ok (.return_, 1) := by decide +kernel
set_option maxRecDepth 20000 in
theorem ggX4_actNow_X4_least : GoodIn wsX4_actNow wsX4_least := goodIn_r _ [6, 1, 7, 48, 49, 50, 51, 52, 53, 54, 55, 56, 57, 58] (by decide +kernel) (by decide +kernel)
set_option maxRecDepth 20000 in
theorem gX4_actNow_X4_least : GoodIn wsX4_actNow (wsV RX4 73 RX4 yX4_least wsX4_least) := goodIn_app (goodIn_of _ (by decide +kernel)) ggX4_actNow_X4_least
set_option maxRecDepth 20000 in
theorem ggX4_actNow_X4_canBid : GoodIn wsX4_actNow wsX4_canBid := goodIn_r _ [11, 1, 2, 3, 4, 5, 6, 7, 48, 49, 50, 51, 52, 53, 54, 55, 56, 57, 58] (by decide +kernel) (by decide +kernel)
set_option maxRecDepth 20000 in
theorem gX4_actNow_X4_canBid : GoodIn wsX4_actNow (wsV RX4 94 RX4 yX4_canBid wsX4_canBid) := goodIn_app (goodIn_of _ (by decide +kernel)) ggX4_actNow_X4_canBid
set_option maxRecDepth 20000 in
theorem ggX4_actNow_X4_bidNow : GoodIn wsX4_actNow wsX4_bidNow := goodIn_r _ [15, 1, 16, 17, 18, 5, 19, 7, 20, 21, 22, 23, 48, 49, 50, 51, 52, 53, 54, 55, 56, 57, 58] (by decide +kernel) (by decide +kernel)
set_option maxRecDepth 20000 in
theorem gX4_actNow_X4_bidNow : GoodIn wsX4_actNow (wsV RX4 97 RX4 yX4_bidNow wsX4_bidNow) := goodIn_app (goodIn_of _ (by decide +kernel)) ggX4_actNow_X4_bidNow
set_option maxRecDepth 20000 in
theorem ggX4_actNow_X4_dropNow : GoodIn wsX4_actNow wsX4_dropNow := goodIn_r _ [27, 1, 7, 28, 29, 30, 5, 31, 32, 33, 34, 35, 16, 17, 18, 19, 20, 21, 22, 23, 36, 37, 38, 39, 40, 41, 42, 43, 44, 45, 46, 47, 48, 49, 50, 51, 52, 53, 54, 55, 56, 57, 58] (by decide +kernel) (by decide +kernel)
set_option maxRecDepth 20000 in
theorem gX4_actNow_X4_dropNow : GoodIn wsX4_actNow (wsV RX4 100 RX4 yX4_dropNow wsX4_dropNow) := goodIn_app (goodIn_of _ (by decide +kernel)) ggX4_actNow_X4_dropNow
theorem dX4_actNow_0 : decode cX4_actNow 0 = .ok (.aload_n 0, 1) := by decide +kernel
theorem dX4_actNow_1 : decode cX4_actNow 1 = .ok (.invokevirtual 73, 3) := by decide +kernel
theorem dX4_actNow_4 : decode cX4_actNow 4 = .ok (.istore_n 1, 1) := by decide +kernel
theorem dX4_actNow_5 : decode cX4_actNow 5 = .ok (.iload_n 1, 1) := by decide +kernel
theorem dX4_actNow_6 : decode cX4_actNow 6 = .ok (.aload_n 0, 1) := by decide +kernel
theorem dX4_actNow_7 : decode cX4_actNow 7 = .ok (.getfield 7, 3) := by decide +kernel
theorem dX4_actNow_10 : decode cX4_actNow 10 = .ok (.bipush 13, 2) := by decide +kernel
theorem dX4_actNow_12 : decode cX4_actNow 12 = .ok (.aload_n 0, 1) := by decide +kernel
theorem dX4_actNow_13 : decode cX4_actNow 13 = .ok (.getfield 7, 3) := by decide +kernel
theorem dX4_actNow_16 : decode cX4_actNow 16 = .ok (.iconst 5, 1) := by decide +kernel
theorem dX4_actNow_17 : decode cX4_actNow 17 = .ok (.iaload, 1) := by decide +kernel
theorem dX4_actNow_18 : decode cX4_actNow 18 = .ok (.iadd, 1) := by decide +kernel
theorem dX4_actNow_19 : decode cX4_actNow 19 = .ok (.iaload, 1) := by decide +kernel
theorem dX4_actNow_20 : decode cX4_actNow 20 = .ok (.if_icmp .gt 19, 3) := by decide +kernel
theorem dX4_actNow_23 : decode cX4_actNow 23 = .ok (.aload_n 0, 1) := by decide +kernel
theorem dX4_actNow_24 : decode cX4_actNow 24 = .ok (.iload_n 1, 1) := by decide +kernel
theorem dX4_actNow_25 : decode cX4_actNow 25 = .ok (.invokevirtual 94, 3) := by decide +kernel
theorem dX4_actNow_28 : decode cX4_actNow 28 = .ok (.ifCond .eq 11, 3) := by decide +kernel
theorem dX4_actNow_31 : decode cX4_actNow 31 = .ok (.aload_n 0, 1) := by decide +kernel
theorem dX4_actNow_32 : decode cX4_actNow 32 = .ok (.iload_n 1, 1) := by decide +kernel
theorem dX4_actNow_33 : decode cX4_actNow 33 = .ok (.invokevirtual 97, 3) := by decide +kernel
theorem dX4_actNow_36 : decode cX4_actNow 36 = .ok (.goto 7, 3) := by decide +kernel
theorem dX4_actNow_39 : decode cX4_actNow 39 = .ok (.aload_n 0, 1) := by decide +kernel
theorem dX4_actNow_40 : decode cX4_actNow 40 = .ok (.invokevirtual 100, 3) := by decide +kernel
theorem dX4_actNow_43 : decode cX4_actNow 43 = .ok (.return_, 1) := by decide +kernel
set_option maxRecDepth 20000 in
theorem ggX4_finishNow_X4_beginNow : GoodIn wsX4_finishNow wsX4_beginNow := goodIn_r _ [6, 1, 7, 8, 9, 5, 10, 11, 12, 13, 14, 15, 56, 57, 58, 59, 60, 61, 62, 63, 64, 65, 66] (by decide +kernel) (by decide +kernel)
set_option maxRecDepth 20000 in
theorem gX4_finishNow_X4_beginNow : GoodIn wsX4_finishNow (wsV RX4 103 RX4 yX4_beginNow wsX4_beginNow) := goodIn_app (goodIn_of _ (by decide +kernel)) ggX4_finishNow_X4_beginNow
set_option maxRecDepth 20000 in
theorem ggX4_finishNow_X4_actNow : GoodIn wsX4_finishNow wsX4_actNow := goodIn_r _ [19, 1, 20, 21, 22, 5, 23, 11, 24, 25, 26, 27, 28, 29, 30, 31, 32, 33, 34, 35, 12, 13, 14, 15, 36, 37, 38, 39, 40, 41, 42, 43, 44, 45, 46, 47, 48, 49, 50, 51, 52, 53, 54, 55, 7, 8, 9, 10, 56, 57, 58, 59, 60, 61, 62, 63, 64, 65, 66] (by decide +kernel) (by decide +kernel)
set_option maxRecDepth 20000 in
theorem gX4_finishNow_X4_actNow : GoodIn wsX4_finishNow (wsV RX4 106 RX4 yX4_actNow wsX4_actNow) := goodIn_app (goodIn_of _ (by decide +kernel)) ggX4_finishNow_X4_actNow
theorem dX4_finishNow_0 : decode cX4_finishNow 0 = .ok (.aload_n 0, 1) := by decide +kernel
theorem dX4_finishNow_1 : decode cX4_finishNow 1 = .ok (.getfield 7, 3) := by decide +kernel
theorem dX4_finishNow_4 : decode cX4_finishNow 4 = .ok (.iconst 4, 1) := by decide +kernel
theorem dX4_finishNow_5 : decode cX4_finishNow 5 = .ok (.iaload, 1) := by decide +kernel
theorem dX4_finishNow_6 : decode cX4_finishNow 6 = .ok (.ifCond .ne 7, 3) := by decide +kernel
theorem dX4_finishNow_9 : decode cX4_finishNow 9 = .ok (.aload_n 0, 1) := by decide +kernel
theorem dX4_finishNow_10 : decode cX4_finishNow 10 = .ok (.invokevirtual 103, 3) := by decide +kernel
theorem dX4_finishNow_13 : decode cX4_finishNow 13 = .ok (.iconst 0, 1) := by decide +kernel
theorem dX4_finishNow_14 : decode cX4_finishNow 14 = .ok (.istore_n 1, 1) := by decide +kernel
theorem dX4_finishNow_15 : decode cX4_finishNow 15 = .ok (.aload_n 0, 1) := by decide +kernel
theorem dX4_finishNow_16 : decode cX4_finishNow 16 = .ok (.getfield 7, 3) := by decide +kernel
theorem dX4_finishNow_19 : decode cX4_finishNow 19 = .ok (.iconst 4, 1) := by decide +kernel
theorem dX4_finishNow_20 : decode cX4_finishNow 20 = .ok (.iaload, 1) := by decide +kernel
theorem dX4_finishNow_21 : decode cX4_finishNow 21 = .ok (.iconst 1, 1) := by decide +kernel
theorem dX4_finishNow_22 : decode cX4_finishNow 22 = .ok (.if_icmp .ne 13, 3) := by decide +kernel
theorem dX4_finishNow_25 : decode cX4_finishNow 25 = .ok (.aload_n 0, 1) := by decide +kernel
theorem dX4_finishNow_26 : decode cX4_finishNow 26 = .ok (.invokevirtual 106, 3) := by decide +kernel
theorem dX4_finishNow_29 : decode cX4_finishNow 29 = .ok (.iinc 1 1, 3) := by decide +kernel
theorem dX4_finishNow_32 : decode cX4_finishNow 32 = .ok (.goto (-17), 3) := by decide +kernel
theorem dX4_finishNow_35 : decode cX4_finishNow 35 = .ok (.iload_n 1, 1) := by decide +kernel
theorem dX4_finishNow_36 : decode cX4_finishNow 36 = .ok (.ireturn, 1) := by decide +kernel
set_option maxRecDepth 20000 in
theorem ggX4_begin_X4_record : GoodIn wsX4_begin wsX4_record := goodIn_r _ [7, 8, 9, 1, 10, 11, 6, 12, 26, 27, 28, 29, 30, 31, 32, 33, 34, 35, 36] (by decide +kernel) (by decide +kernel)
set_option maxRecDepth 20000 in
theorem gX4_begin_X4_record : GoodIn wsX4_begin (wsV RX4 54 RX4 yX4_record wsX4_record) := goodIn_app (goodIn_of _ (by decide +kernel)) ggX4_begin_X4_record
set_option maxRecDepth 20000 in
theorem ggX4_begin_X4_beginNow : GoodIn wsX4_begin wsX4_beginNow := goodIn_r _ [16, 1, 17, 18, 19, 6, 20, 21, 22, 23, 24, 25, 26, 27, 28, 29, 30, 31, 32, 33, 34, 35, 36] (by decide +kernel) (by decide +kernel)
set_option maxRecDepth 20000 in
theorem gX4_begin_X4_beginNow : GoodIn wsX4_begin (wsV RX4 103 RX4 yX4_beginNow wsX4_beginNow) := goodIn_app (goodIn_of _ (by decide +kernel)) ggX4_begin_X4_beginNow
theorem dX4_begin_0 : decode cX4_begin 0 = .ok (.aload_n 0, 1) := by decide +kernel
theorem dX4_begin_1 : decode cX4_begin 1 = .ok (.getfield 7, 3) := by decide +kernel
theorem dX4_begin_4 : decode cX4_begin 4 = .ok (.iconst 4, 1) := by decide +kernel
theorem dX4_begin_5 : decode cX4_begin 5 = .ok (.iaload, 1) := by decide +kernel
theorem dX4_begin_6 : decode cX4_begin 6 = .ok (.iconst 1, 1) := by decide +kernel
theorem dX4_begin_7 : decode cX4_begin 7 = .ok (.if_icmp .ne 6, 3) := by decide +kernel
theorem dX4_begin_10 : decode cX4_begin 10 = .ok (.ldc 48, 2) := by decide +kernel
theorem dX4_begin_12 : decode cX4_begin 12 = .ok (.ireturn, 1) := by decide +kernel
theorem dX4_begin_13 : decode cX4_begin 13 = .ok (.aload_n 0, 1) := by decide +kernel
theorem dX4_begin_14 : decode cX4_begin 14 = .ok (.invokevirtual 54, 3) := by decide +kernel
theorem dX4_begin_17 : decode cX4_begin 17 = .ok (.aload_n 0, 1) := by decide +kernel
theorem dX4_begin_18 : decode cX4_begin 18 = .ok (.invokevirtual 103, 3) := by decide +kernel
theorem dX4_begin_21 : decode cX4_begin 21 = .ok (.aload_n 0, 1) := by decide +kernel
theorem dX4_begin_22 : decode cX4_begin 22 = .ok (.getfield 7, 3) := by decide +kernel
theorem dX4_begin_25 : decode cX4_begin 25 = .ok (.iconst 5, 1) := by decide +kernel
theorem dX4_begin_26 : decode cX4_begin 26 = .ok (.iaload, 1) := by decide +kernel
theorem dX4_begin_27 : decode cX4_begin 27 = .ok (.ireturn, 1) := by decide +kernel
set_option maxRecDepth 20000 in
theorem ggX4_mayBid_X4_canBid : GoodIn wsX4_mayBid wsX4_canBid := goodIn_r _ [6, 1, 7, 8, 9, 5, 10, 11, 12, 13, 14, 15, 16, 17, 18, 19, 20, 21, 22] (by decide +kernel) (by decide +kernel)
set_option maxRecDepth 20000 in
theorem gX4_mayBid_X4_canBid : GoodIn wsX4_mayBid (wsV RX4 94 RX4 yX4_canBid wsX4_canBid) := goodIn_app (goodIn_of _ (by decide +kernel)) ggX4_mayBid_X4_canBid
theorem dX4_mayBid_0 : decode cX4_mayBid 0 = .ok (.aload_n 0, 1) := by decide +kernel
theorem dX4_mayBid_1 : decode cX4_mayBid 1 = .ok (.getfield 7, 3) := by decide +kernel
theorem dX4_mayBid_4 : decode cX4_mayBid 4 = .ok (.iconst 4, 1) := by decide +kernel
theorem dX4_mayBid_5 : decode cX4_mayBid 5 = .ok (.iaload, 1) := by decide +kernel
theorem dX4_mayBid_6 : decode cX4_mayBid 6 = .ok (.iconst 1, 1) := by decide +kernel
theorem dX4_mayBid_7 : decode cX4_mayBid 7 = .ok (.if_icmp .ne 15, 3) := by decide +kernel
theorem dX4_mayBid_10 : decode cX4_mayBid 10 = .ok (.aload_n 0, 1) := by decide +kernel
theorem dX4_mayBid_11 : decode cX4_mayBid 11 = .ok (.iload_n 1, 1) := by decide +kernel
theorem dX4_mayBid_12 : decode cX4_mayBid 12 = .ok (.invokevirtual 94, 3) := by decide +kernel
theorem dX4_mayBid_15 : decode cX4_mayBid 15 = .ok (.ifCond .eq 7, 3) := by decide +kernel
theorem dX4_mayBid_18 : decode cX4_mayBid 18 = .ok (.iconst 1, 1) := by decide +kernel
theorem dX4_mayBid_19 : decode cX4_mayBid 19 = .ok (.goto 4, 3) := by decide +kernel
theorem dX4_mayBid_22 : decode cX4_mayBid 22 = .ok (.iconst 0, 1) := by decide +kernel
theorem dX4_mayBid_23 : decode cX4_mayBid 23 = .ok (.ireturn, 1) := by decide +kernel
set_option maxRecDepth 20000 in
theorem ggX4_bid_X4_in : GoodIn wsX4_bid wsX4_in := goodIn_r _ [7] (by decide +kernel) (by decide +kernel)
set_option maxRecDepth 20000 in
theorem gX4_bid_X4_in : GoodIn wsX4_bid (va_wsS RX4 35 yX4_in wsX4_in) := goodIn_app (goodIn_of _ (by decide +kernel)) ggX4_bid_X4_in
set_option maxRecDepth 20000 in
theorem ggX4_bid_X4_mayBid : GoodIn wsX4_bid wsX4_mayBid := goodIn_r _ [11, 3, 12, 13, 14, 6, 15, 16, 17, 18, 19, 20, 42, 43, 44, 45, 46, 47, 48, 49, 50, 51, 52] (by decide +kernel) (by decide +kernel)
set_option maxRecDepth 20000 in
theorem gX4_bid_X4_mayBid : GoodIn wsX4_bid (wsV RX4 109 RX4 yX4_mayBid wsX4_mayBid) := goodIn_app (goodIn_of _ (by decide +kernel)) ggX4_bid_X4_mayBid
set_option maxRecDepth 20000 in
theorem ggX4_bid_X4_record : GoodIn wsX4_bid wsX4_record := goodIn_r _ [24, 25, 26, 3, 27, 28, 6, 29, 42, 43, 44, 45, 46, 47, 48, 49, 50, 51, 52] (by decide +kernel) (by decide +kernel)
set_option maxRecDepth 20000 in
theorem gX4_bid_X4_record : GoodIn wsX4_bid (wsV RX4 54 RX4 yX4_record wsX4_record) := goodIn_app (goodIn_of _ (by decide +kernel)) ggX4_bid_X4_record
set_option maxRecDepth 20000 in
theorem ggX4_bid_X4_bidNow : GoodIn wsX4_bid wsX4_bidNow := goodIn_r _ [33, 3, 34, 35, 36, 6, 37, 20, 38, 39, 40, 41, 42, 43, 44, 45, 46, 47, 48, 49, 50, 51, 52] (by decide +kernel) (by decide +kernel)
set_option maxRecDepth 20000 in
theorem gX4_bid_X4_bidNow : GoodIn wsX4_bid (wsV RX4 97 RX4 yX4_bidNow wsX4_bidNow) := goodIn_app (goodIn_of _ (by decide +kernel)) ggX4_bid_X4_bidNow
theorem dX4_bid_0 : decode cX4_bid 0 = .ok (.iload_n 1, 1) := by decide +kernel
theorem dX4_bid_1 : decode cX4_bid 1 = .ok (.iconst 0, 1) := by decide +kernel
theorem dX4_bid_2 : decode cX4_bid 2 = .ok (.sipush 9999, 3) := by decide +kernel
theorem dX4_bid_5 : decode cX4_bid 5 = .ok (.invokestatic 35, 3) := by decide +kernel
theorem dX4_bid_8 : decode cX4_bid 8 = .ok (.ifCond .ne 6, 3) := by decide +kernel
theorem dX4_bid_11 : decode cX4_bid 11 = .ok (.ldc 49, 2) := by decide +kernel
theorem dX4_bid_13 : decode cX4_bid 13 = .ok (.ireturn, 1) := by decide +kernel
theorem dX4_bid_14 : decode cX4_bid 14 = .ok (.aload_n 0, 1) := by decide +kernel
theorem dX4_bid_15 : decode cX4_bid 15 = .ok (.iload_n 1, 1) := by decide +kernel
theorem dX4_bid_16 : decode cX4_bid 16 = .ok (.invokevirtual 109, 3) := by decide +kernel
theorem dX4_bid_19 : decode cX4_bid 19 = .ok (.ifCond .ne 6, 3) := by decide +kernel
theorem dX4_bid_22 : decode cX4_bid 22 = .ok (.ldc 48, 2) := by decide +kernel
theorem dX4_bid_24 : decode cX4_bid 24 = .ok (.ireturn, 1) := by decide +kernel
theorem dX4_bid_25 : decode cX4_bid 25 = .ok (.aload_n 0, 1) := by decide +kernel
theorem dX4_bid_26 : decode cX4_bid 26 = .ok (.invokevirtual 54, 3) := by decide +kernel
theorem dX4_bid_29 : decode cX4_bid 29 = .ok (.aload_n 0, 1) := by decide +kernel
theorem dX4_bid_30 : decode cX4_bid 30 = .ok (.iload_n 1, 1) := by decide +kernel
theorem dX4_bid_31 : decode cX4_bid 31 = .ok (.invokevirtual 97, 3) := by decide +kernel
theorem dX4_bid_34 : decode cX4_bid 34 = .ok (.aload_n 0, 1) := by decide +kernel
theorem dX4_bid_35 : decode cX4_bid 35 = .ok (.getfield 7, 3) := by decide +kernel
theorem dX4_bid_38 : decode cX4_bid 38 = .ok (.iconst 5, 1) := by decide +kernel
theorem dX4_bid_39 : decode cX4_bid 39 = .ok (.iaload, 1) := by decide +kernel
theorem dX4_bid_40 : decode cX4_bid 40 = .ok (.ireturn, 1) := by decide +kernel
set_option maxRecDepth 20000 in
theorem ggX4_drop_X4_record : GoodIn wsX4_drop wsX4_record := goodIn_r _ [7, 8, 9, 1, 10, 11, 6, 12, 46, 47, 48, 49, 50, 51, 52, 53, 54, 55, 56] (by decide +kernel) (by decide +kernel)
set_option maxRecDepth 20000 in
theorem gX4_drop_X4_record : GoodIn wsX4_drop (wsV RX4 54 RX4 yX4_record wsX4_record) := goodIn_app (goodIn_of _ (by decide +kernel)) ggX4_drop_X4_record
set_option maxRecDepth 20000 in
theorem ggX4_drop_X4_dropNow : GoodIn wsX4_drop wsX4_dropNow := goodIn_r _ [16, 1, 17, 18, 19, 20, 6, 21, 22, 23, 24, 25, 26, 27, 28, 29, 30, 31, 32, 33, 34, 35, 36, 37, 38, 39, 40, 41, 42, 43, 44, 45, 46, 47, 48, 49, 50, 51, 52, 53, 54, 55, 56] (by decide +kernel) (by decide +kernel)
set_option maxRecDepth 20000 in
theorem gX4_drop_X4_dropNow : GoodIn wsX4_drop (wsV RX4 100 RX4 yX4_dropNow wsX4_dropNow) := goodIn_app (goodIn_of _ (by decide +kernel)) ggX4_drop_X4_dropNow
theorem dX4_drop_0 : decode cX4_drop 0 = .ok (.aload_n 0, 1) := by decide +kernel
theorem dX4_drop_1 : decode cX4_drop 1 = .ok (.getfield 7, 3) := by decide +kernel
theorem dX4_drop_4 : decode cX4_drop 4 = .ok (.iconst 4, 1) := by decide +kernel
theorem dX4_drop_5 : decode cX4_drop 5 = .ok (.iaload, 1) := by decide +kernel
theorem dX4_drop_6 : decode cX4_drop 6 = .ok (.ifCond .ne 6, 3) := by decide +kernel
theorem dX4_drop_9 : decode cX4_drop 9 = .ok (.ldc 48, 2) := by decide +kernel
theorem dX4_drop_11 : decode cX4_drop 11 = .ok (.ireturn, 1) := by decide +kernel
theorem dX4_drop_12 : decode cX4_drop 12 = .ok (.aload_n 0, 1) := by decide +kernel
theorem dX4_drop_13 : decode cX4_drop 13 = .ok (.invokevirtual 54, 3) := by decide +kernel
theorem dX4_drop_16 : decode cX4_drop 16 = .ok (.aload_n 0, 1) := by decide +kernel
theorem dX4_drop_17 : decode cX4_drop 17 = .ok (.invokevirtual 100, 3) := by decide +kernel
theorem dX4_drop_20 : decode cX4_drop 20 = .ok (.aload_n 0, 1) := by decide +kernel
theorem dX4_drop_21 : decode cX4_drop 21 = .ok (.getfield 7, 3) := by decide +kernel
theorem dX4_drop_24 : decode cX4_drop 24 = .ok (.iconst 5, 1) := by decide +kernel
theorem dX4_drop_25 : decode cX4_drop 25 = .ok (.iaload, 1) := by decide +kernel
theorem dX4_drop_26 : decode cX4_drop 26 = .ok (.ireturn, 1) := by decide +kernel
set_option maxRecDepth 20000 in
theorem ggX4_act_X4_record : GoodIn wsX4_act wsX4_record := goodIn_r _ [7, 8, 9, 1, 10, 11, 6, 12, 62, 63, 64, 65, 66, 67, 68, 69, 70, 71, 72] (by decide +kernel) (by decide +kernel)
set_option maxRecDepth 20000 in
theorem gX4_act_X4_record : GoodIn wsX4_act (wsV RX4 54 RX4 yX4_record wsX4_record) := goodIn_app (goodIn_of _ (by decide +kernel)) ggX4_act_X4_record
set_option maxRecDepth 20000 in
theorem ggX4_act_X4_actNow : GoodIn wsX4_act wsX4_actNow := goodIn_r _ [16, 1, 17, 18, 19, 6, 20, 21, 22, 23, 24, 25, 26, 27, 28, 29, 30, 31, 32, 33, 34, 35, 36, 37, 38, 39, 40, 41, 42, 43, 44, 45, 46, 47, 48, 49, 50, 51, 52, 53, 54, 55, 56, 57, 58, 59, 60, 61, 62, 63, 64, 65, 66, 67, 68, 69, 70, 71, 72] (by decide +kernel) (by decide +kernel)
set_option maxRecDepth 20000 in
theorem gX4_act_X4_actNow : GoodIn wsX4_act (wsV RX4 106 RX4 yX4_actNow wsX4_actNow) := goodIn_app (goodIn_of _ (by decide +kernel)) ggX4_act_X4_actNow
theorem dX4_act_0 : decode cX4_act 0 = .ok (.aload_n 0, 1) := by decide +kernel
theorem dX4_act_1 : decode cX4_act 1 = .ok (.getfield 7, 3) := by decide +kernel
theorem dX4_act_4 : decode cX4_act 4 = .ok (.iconst 4, 1) := by decide +kernel
theorem dX4_act_5 : decode cX4_act 5 = .ok (.iaload, 1) := by decide +kernel
theorem dX4_act_6 : decode cX4_act 6 = .ok (.ifCond .ne 6, 3) := by decide +kernel
theorem dX4_act_9 : decode cX4_act 9 = .ok (.ldc 48, 2) := by decide +kernel
theorem dX4_act_11 : decode cX4_act 11 = .ok (.ireturn, 1) := by decide +kernel
theorem dX4_act_12 : decode cX4_act 12 = .ok (.aload_n 0, 1) := by decide +kernel
theorem dX4_act_13 : decode cX4_act 13 = .ok (.invokevirtual 54, 3) := by decide +kernel
theorem dX4_act_16 : decode cX4_act 16 = .ok (.aload_n 0, 1) := by decide +kernel
theorem dX4_act_17 : decode cX4_act 17 = .ok (.invokevirtual 106, 3) := by decide +kernel
theorem dX4_act_20 : decode cX4_act 20 = .ok (.aload_n 0, 1) := by decide +kernel
theorem dX4_act_21 : decode cX4_act 21 = .ok (.getfield 7, 3) := by decide +kernel
theorem dX4_act_24 : decode cX4_act 24 = .ok (.iconst 5, 1) := by decide +kernel
theorem dX4_act_25 : decode cX4_act 25 = .ok (.iaload, 1) := by decide +kernel
theorem dX4_act_26 : decode cX4_act 26 = .ok (.ireturn, 1) := by decide +kernel
set_option maxRecDepth 20000 in
theorem ggX4_finish_X4_record : GoodIn wsX4_finish wsX4_record := goodIn_r _ [5, 6, 7, 8, 9, 10, 4, 11, 69, 70, 71, 72, 73, 74, 75, 76, 77, 78, 79] (by decide +kernel) (by decide +kernel)
set_option maxRecDepth 20000 in
theorem gX4_finish_X4_record : GoodIn wsX4_finish (wsV RX4 54 RX4 yX4_record wsX4_record) := goodIn_app (goodIn_of _ (by decide +kernel)) ggX4_finish_X4_record
set_option maxRecDepth 20000 in
theorem ggX4_finish_X4_finishNow : GoodIn wsX4_finish wsX4_finishNow := goodIn_r _ [15, 8, 16, 17, 18, 4, 19, 20, 21, 22, 23, 24, 25, 26, 27, 28, 29, 30, 31, 32, 33, 34, 35, 36, 37, 38, 39, 40, 41, 42, 43, 44, 45, 46, 47, 48, 49, 50, 51, 52, 53, 54, 55, 56, 57, 58, 59, 60, 61, 62, 63, 64, 65, 66, 67, 68, 69, 70, 71, 72, 73, 74, 75, 76, 77, 78, 79] (by decide +kernel) (by decide +kernel)
set_option maxRecDepth 20000 in
theorem gX4_finish_X4_finishNow : GoodIn wsX4_finish (wsV RX4 112 RX4 yX4_finishNow wsX4_finishNow) := goodIn_app (goodIn_of _ (by decide +kernel)) ggX4_finish_X4_finishNow
set_option maxRecDepth 20000 in
theorem ggX4_finish_X4_playerAt : GoodIn wsX4_finish wsX4_playerAt := goodIn_r _ [28, 24, 8, 69, 70, 71, 72, 73, 74, 75, 76, 77, 78, 79] (by decide +kernel) (by decide +kernel)
set_option maxRecDepth 20000 in
theorem gX4_finish_X4_playerAt : GoodIn wsX4_finish (wsV RX4 70 RX4 yX4_playerAt wsX4_playerAt) := goodIn_app (goodIn_of _ (by decide +kernel)) ggX4_finish_X4_playerAt
theorem dX4_finish_0 : decode cX4_finish 0 = .ok (.aload_n 0, 1) := by decide +kernel
theorem dX4_finish_1 : decode cX4_finish 1 = .ok (.invokevirtual 54, 3) := by decide +kernel
theorem dX4_finish_4 : decode cX4_finish 4 = .ok (.aload_n 0, 1) := by decide +kernel
theorem dX4_finish_5 : decode cX4_finish 5 = .ok (.invokevirtual 112, 3) := by decide +kernel
theorem dX4_finish_8 : decode cX4_finish 8 = .ok (.pop, 1) := by decide +kernel
theorem dX4_finish_9 : decode cX4_finish 9 = .ok (.aload_n 0, 1) := by decide +kernel
theorem dX4_finish_10 : decode cX4_finish 10 = .ok (.iconst 0, 1) := by decide +kernel
theorem dX4_finish_11 : decode cX4_finish 11 = .ok (.invokevirtual 70, 3) := by decide +kernel
theorem dX4_finish_14 : decode cX4_finish 14 = .ok (.ireturn, 1) := by decide +kernel
set_option maxRecDepth 20000 in
theorem ggX4_put_X4_in : GoodIn wsX4_put wsX4_in := goodIn_r _ [9] (by decide +kernel) (by decide +kernel)
set_option maxRecDepth 20000 in
theorem gX4_put_X4_in : GoodIn wsX4_put (va_wsS RX4 35 yX4_in wsX4_in) := goodIn_app (goodIn_of _ (by decide +kernel)) ggX4_put_X4_in
theorem dX4_put_0 : decode cX4_put 0 = .ok (.lload_n 1, 1) := by decide +kernel
theorem dX4_put_1 : decode cX4_put 1 = .ok (.lstore_n 3, 1) := by decide +kernel
theorem dX4_put_2 : decode cX4_put 2 = .ok (.iconst 0, 1) := by decide +kernel
theorem dX4_put_3 : decode cX4_put 3 = .ok (.istore 5, 2) := by decide +kernel
theorem dX4_put_5 : decode cX4_put 5 = .ok (.lload_n 3, 1) := by decide +kernel
theorem dX4_put_6 : decode cX4_put 6 = .ok (.lconst 0, 1) := by decide +kernel
theorem dX4_put_7 : decode cX4_put 7 = .ok (.lcmp, 1) := by decide +kernel
theorem dX4_put_8 : decode cX4_put 8 = .ok (.ifCond .eq 40, 3) := by decide +kernel
theorem dX4_put_11 : decode cX4_put 11 = .ok (.iload 5, 2) := by decide +kernel
theorem dX4_put_13 : decode cX4_put 13 = .ok (.bipush 8, 2) := by decide +kernel
theorem dX4_put_15 : decode cX4_put 15 = .ok (.if_icmp .ge 33, 3) := by decide +kernel
theorem dX4_put_18 : decode cX4_put 18 = .ok (.lload_n 3, 1) := by decide +kernel
theorem dX4_put_19 : decode cX4_put 19 = .ok (.ldc2_w 115, 3) := by decide +kernel
theorem dX4_put_22 : decode cX4_put 22 = .ok (.land, 1) := by decide +kernel
theorem dX4_put_23 : decode cX4_put 23 = .ok (.l2i, 1) := by decide +kernel
theorem dX4_put_24 : decode cX4_put 24 = .ok (.bipush 33, 2) := by decide +kernel
theorem dX4_put_26 : decode cX4_put 26 = .ok (.bipush 126, 2) := by decide +kernel
theorem dX4_put_28 : decode cX4_put 28 = .ok (.invokestatic 35, 3) := by decide +kernel
theorem dX4_put_31 : decode cX4_put 31 = .ok (.ifCond .ne 6, 3) := by decide +kernel
theorem dX4_put_34 : decode cX4_put 34 = .ok (.ldc 49, 2) := by decide +kernel
theorem dX4_put_36 : decode cX4_put 36 = .ok (.ireturn, 1) := by decide +kernel
theorem dX4_put_37 : decode cX4_put 37 = .ok (.lload_n 3, 1) := by decide +kernel
theorem dX4_put_38 : decode cX4_put 38 = .ok (.bipush 8, 2) := by decide +kernel
theorem dX4_put_40 : decode cX4_put 40 = .ok (.lushr, 1) := by decide +kernel
theorem dX4_put_41 : decode cX4_put 41 = .ok (.lstore_n 3, 1) := by decide +kernel
theorem dX4_put_42 : decode cX4_put 42 = .ok (.iinc 5 1, 3) := by decide +kernel
theorem dX4_put_45 : decode cX4_put 45 = .ok (.goto (-40), 3) := by decide +kernel
theorem dX4_put_48 : decode cX4_put 48 = .ok (.iload 5, 2) := by decide +kernel
theorem dX4_put_50 : decode cX4_put 50 = .ok (.ifCond .ne 6, 3) := by decide +kernel
theorem dX4_put_53 : decode cX4_put 53 = .ok (.ldc 49, 2) := by decide +kernel
theorem dX4_put_55 : decode cX4_put 55 = .ok (.ireturn, 1) := by decide +kernel
theorem dX4_put_56 : decode cX4_put 56 = .ok (.aload_n 0, 1) := by decide +kernel
theorem dX4_put_57 : decode cX4_put 57 = .ok (.getfield 117, 3) := by decide +kernel
theorem dX4_put_60 : decode cX4_put 60 = .ok (.iload 5, 2) := by decide +kernel
theorem dX4_put_62 : decode cX4_put 62 = .ok (.iadd, 1) := by decide +kernel
theorem dX4_put_63 : decode cX4_put 63 = .ok (.bipush 60, 2) := by decide +kernel
theorem dX4_put_65 : decode cX4_put 65 = .ok (.if_icmp .le 6, 3) := by decide +kernel
theorem dX4_put_68 : decode cX4_put 68 = .ok (.ldc 120, 2) := by decide +kernel
theorem dX4_put_70 : decode cX4_put 70 = .ok (.ireturn, 1) := by decide +kernel
theorem dX4_put_71 : decode cX4_put 71 = .ok (.iload 5, 2) := by decide +kernel
theorem dX4_put_73 : decode cX4_put 73 = .ok (.iconst 1, 1) := by decide +kernel
theorem dX4_put_74 : decode cX4_put 74 = .ok (.isub, 1) := by decide +kernel
theorem dX4_put_75 : decode cX4_put 75 = .ok (.istore 6, 2) := by decide +kernel
theorem dX4_put_77 : decode cX4_put 77 = .ok (.iload 6, 2) := by decide +kernel
theorem dX4_put_79 : decode cX4_put 79 = .ok (.ifCond .lt 40, 3) := by decide +kernel
theorem dX4_put_82 : decode cX4_put 82 = .ok (.aload_n 0, 1) := by decide +kernel
theorem dX4_put_83 : decode cX4_put 83 = .ok (.getfield 26, 3) := by decide +kernel
theorem dX4_put_86 : decode cX4_put 86 = .ok (.aload_n 0, 1) := by decide +kernel
theorem dX4_put_87 : decode cX4_put 87 = .ok (.getfield 117, 3) := by decide +kernel
theorem dX4_put_90 : decode cX4_put 90 = .ok (.lload_n 1, 1) := by decide +kernel
theorem dX4_put_91 : decode cX4_put 91 = .ok (.bipush 8, 2) := by decide +kernel
theorem dX4_put_93 : decode cX4_put 93 = .ok (.iload 6, 2) := by decide +kernel
theorem dX4_put_95 : decode cX4_put 95 = .ok (.imul, 1) := by decide +kernel
theorem dX4_put_96 : decode cX4_put 96 = .ok (.lushr, 1) := by decide +kernel
theorem dX4_put_97 : decode cX4_put 97 = .ok (.ldc2_w 115, 3) := by decide +kernel
theorem dX4_put_100 : decode cX4_put 100 = .ok (.land, 1) := by decide +kernel
theorem dX4_put_101 : decode cX4_put 101 = .ok (.l2i, 1) := by decide +kernel
theorem dX4_put_102 : decode cX4_put 102 = .ok (.iastore, 1) := by decide +kernel
theorem dX4_put_103 : decode cX4_put 103 = .ok (.aload_n 0, 1) := by decide +kernel
theorem dX4_put_104 : decode cX4_put 104 = .ok (.dup, 1) := by decide +kernel
theorem dX4_put_105 : decode cX4_put 105 = .ok (.getfield 117, 3) := by decide +kernel
theorem dX4_put_108 : decode cX4_put 108 = .ok (.iconst 1, 1) := by decide +kernel
theorem dX4_put_109 : decode cX4_put 109 = .ok (.iadd, 1) := by decide +kernel
theorem dX4_put_110 : decode cX4_put 110 = .ok (.putfield 117, 3) := by decide +kernel
theorem dX4_put_113 : decode cX4_put 113 = .ok (.iinc 6 (-1), 3) := by decide +kernel
theorem dX4_put_116 : decode cX4_put 116 = .ok (.goto (-39), 3) := by decide +kernel
theorem dX4_put_119 : decode cX4_put 119 = .ok (.aload_n 0, 1) := by decide +kernel
theorem dX4_put_120 : decode cX4_put 120 = .ok (.getfield 117, 3) := by decide +kernel
theorem dX4_put_123 : decode cX4_put 123 = .ok (.ireturn, 1) := by decide +kernel
theorem dX4_wipe_0 : decode cX4_wipe 0 = .ok (.aload_n 0, 1) := by decide +kernel
theorem dX4_wipe_1 : decode cX4_wipe 1 = .ok (.getfield 117, 3) := by decide +kernel
theorem dX4_wipe_4 : decode cX4_wipe 4 = .ok (.istore_n 1, 1) := by decide +kernel
theorem dX4_wipe_5 : decode cX4_wipe 5 = .ok (.aload_n 0, 1) := by decide +kernel
theorem dX4_wipe_6 : decode cX4_wipe 6 = .ok (.iconst 0, 1) := by decide +kernel
theorem dX4_wipe_7 : decode cX4_wipe 7 = .ok (.putfield 117, 3) := by decide +kernel
theorem dX4_wipe_10 : decode cX4_wipe 10 = .ok (.iload_n 1, 1) := by decide +kernel
theorem dX4_wipe_11 : decode cX4_wipe 11 = .ok (.ireturn, 1) := by decide +kernel
set_option maxRecDepth 20000 in
theorem ggX4_sees_X4_in : GoodIn wsX4_sees wsX4_in := goodIn_r _ [7] (by decide +kernel) (by decide +kernel)
set_option maxRecDepth 20000 in
theorem gX4_sees_X4_in : GoodIn wsX4_sees (va_wsS RX4 35 yX4_in wsX4_in) := goodIn_app (goodIn_of _ (by decide +kernel)) ggX4_sees_X4_in
theorem dX4_sees_0 : decode cX4_sees 0 = .ok (.aload_n 0, 1) := by decide +kernel
theorem dX4_sees_1 : decode cX4_sees 1 = .ok (.getfield 121, 3) := by decide +kernel
theorem dX4_sees_4 : decode cX4_sees 4 = .ok (.aload_n 0, 1) := by decide +kernel
theorem dX4_sees_5 : decode cX4_sees 5 = .ok (.getfield 117, 3) := by decide +kernel
theorem dX4_sees_8 : decode cX4_sees 8 = .ok (.if_icmp .ge 24, 3) := by decide +kernel
theorem dX4_sees_11 : decode cX4_sees 11 = .ok (.aload_n 0, 1) := by decide +kernel
theorem dX4_sees_12 : decode cX4_sees 12 = .ok (.getfield 26, 3) := by decide +kernel
theorem dX4_sees_15 : decode cX4_sees 15 = .ok (.aload_n 0, 1) := by decide +kernel
theorem dX4_sees_16 : decode cX4_sees 16 = .ok (.getfield 121, 3) := by decide +kernel
theorem dX4_sees_19 : decode cX4_sees 19 = .ok (.iaload, 1) := by decide +kernel
theorem dX4_sees_20 : decode cX4_sees 20 = .ok (.iload_n 1, 1) := by decide +kernel
theorem dX4_sees_21 : decode cX4_sees 21 = .ok (.iload_n 2, 1) := by decide +kernel
theorem dX4_sees_22 : decode cX4_sees 22 = .ok (.invokestatic 35, 3) := by decide +kernel
theorem dX4_sees_25 : decode cX4_sees 25 = .ok (.ifCond .eq 7, 3) := by decide +kernel
theorem dX4_sees_28 : decode cX4_sees 28 = .ok (.iconst 1, 1) := by decide +kernel
theorem dX4_sees_29 : decode cX4_sees 29 = .ok (.goto 4, 3) := by decide +kernel
theorem dX4_sees_32 : decode cX4_sees 32 = .ok (.iconst 0, 1) := by decide +kernel
theorem dX4_sees_33 : decode cX4_sees 33 = .ok (.ireturn, 1) := by decide +kernel
set_option maxRecDepth 20000 in
theorem ggX4_takes_X4_sees : GoodIn wsX4_takes wsX4_sees := goodIn_r _ [6, 1, 7, 8, 9, 10, 5, 11, 12, 13, 14, 15, 16, 17, 18, 19, 20, 21, 22] (by decide +kernel) (by decide +kernel)
set_option maxRecDepth 20000 in
theorem gX4_takes_X4_sees : GoodIn wsX4_takes (wsV RX4 124 RX4 yX4_sees wsX4_sees) := goodIn_app (goodIn_of _ (by decide +kernel)) ggX4_takes_X4_sees
theorem dX4_takes_0 : decode cX4_takes 0 = .ok (.aload_n 0, 1) := by decide +kernel
theorem dX4_takes_1 : decode cX4_takes 1 = .ok (.iload_n 1, 1) := by decide +kernel
theorem dX4_takes_2 : decode cX4_takes 2 = .ok (.iload_n 1, 1) := by decide +kernel
theorem dX4_takes_3 : decode cX4_takes 3 = .ok (.invokevirtual 124, 3) := by decide +kernel
theorem dX4_takes_6 : decode cX4_takes 6 = .ok (.istore_n 2, 1) := by decide +kernel
theorem dX4_takes_7 : decode cX4_takes 7 = .ok (.aload_n 0, 1) := by decide +kernel
theorem dX4_takes_8 : decode cX4_takes 8 = .ok (.dup, 1) := by decide +kernel
theorem dX4_takes_9 : decode cX4_takes 9 = .ok (.getfield 121, 3) := by decide +kernel
theorem dX4_takes_12 : decode cX4_takes 12 = .ok (.iload_n 2, 1) := by decide +kernel
theorem dX4_takes_13 : decode cX4_takes 13 = .ok (.ifCond .eq 7, 3) := by decide +kernel
theorem dX4_takes_16 : decode cX4_takes 16 = .ok (.iconst 1, 1) := by decide +kernel
theorem dX4_takes_17 : decode cX4_takes 17 = .ok (.goto 4, 3) := by decide +kernel
theorem dX4_takes_20 : decode cX4_takes 20 = .ok (.iconst 0, 1) := by decide +kernel
theorem dX4_takes_21 : decode cX4_takes 21 = .ok (.iadd, 1) := by decide +kernel
theorem dX4_takes_22 : decode cX4_takes 22 = .ok (.putfield 121, 3) := by decide +kernel
theorem dX4_takes_25 : decode cX4_takes 25 = .ok (.iload_n 2, 1) := by decide +kernel
theorem dX4_takes_26 : decode cX4_takes 26 = .ok (.ireturn, 1) := by decide +kernel
set_option maxRecDepth 20000 in
theorem ggX4_readMove_X4_in : GoodIn wsX4_readMove wsX4_in := goodIn_r _ [9] (by decide +kernel) (by decide +kernel)
set_option maxRecDepth 20000 in
theorem gX4_readMove_X4_in : GoodIn wsX4_readMove (va_wsS RX4 35 yX4_in wsX4_in) := goodIn_app (goodIn_of _ (by decide +kernel)) ggX4_readMove_X4_in
set_option maxRecDepth 20000 in
theorem ggX4_readMove_X4_sees : GoodIn wsX4_readMove wsX4_sees := goodIn_r _ [13, 1, 2, 3, 6, 7, 8, 9, 14, 15, 16, 17, 18, 19, 20, 21, 22, 23, 24] (by decide +kernel) (by decide +kernel)
set_option maxRecDepth 20000 in
theorem gX4_readMove_X4_sees : GoodIn wsX4_readMove (wsV RX4 124 RX4 yX4_sees wsX4_sees) := goodIn_app (goodIn_of _ (by decide +kernel)) ggX4_readMove_X4_sees
theorem dX4_readMove_0 : decode cX4_readMove 0 = .ok (.aload_n 0, 1) := by decide +kernel
theorem dX4_readMove_1 : decode cX4_readMove 1 = .ok (.getfield 121, 3) := by decide +kernel
theorem dX4_readMove_4 : decode cX4_readMove 4 = .ok (.aload_n 0, 1) := by decide +kernel
theorem dX4_readMove_5 : decode cX4_readMove 5 = .ok (.getfield 117, 3) := by decide +kernel
theorem dX4_readMove_8 : decode cX4_readMove 8 = .ok (.if_icmp .ge 15, 3) := by decide +kernel
theorem dX4_readMove_11 : decode cX4_readMove 11 = .ok (.aload_n 0, 1) := by decide +kernel
theorem dX4_readMove_12 : decode cX4_readMove 12 = .ok (.getfield 26, 3) := by decide +kernel
theorem dX4_readMove_15 : decode cX4_readMove 15 = .ok (.aload_n 0, 1) := by decide +kernel
theorem dX4_readMove_16 : decode cX4_readMove 16 = .ok (.getfield 121, 3) := by decide +kernel
theorem dX4_readMove_19 : decode cX4_readMove 19 = .ok (.iaload, 1) := by decide +kernel
theorem dX4_readMove_20 : decode cX4_readMove 20 = .ok (.goto 4, 3) := by decide +kernel
theorem dX4_readMove_23 : decode cX4_readMove 23 = .ok (.iconst 0, 1) := by decide +kernel
theorem dX4_readMove_24 : decode cX4_readMove 24 = .ok (.istore_n 1, 1) := by decide +kernel
theorem dX4_readMove_25 : decode cX4_readMove 25 = .ok (.iload_n 1, 1) := by decide +kernel
theorem dX4_readMove_26 : decode cX4_readMove 26 = .ok (.bipush 48, 2) := by decide +kernel
theorem dX4_readMove_28 : decode cX4_readMove 28 = .ok (.bipush 57, 2) := by decide +kernel
theorem dX4_readMove_30 : decode cX4_readMove 30 = .ok (.invokestatic 35, 3) := by decide +kernel
theorem dX4_readMove_33 : decode cX4_readMove 33 = .ok (.istore_n 2, 1) := by decide +kernel
theorem dX4_readMove_34 : decode cX4_readMove 34 = .ok (.iload_n 2, 1) := by decide +kernel
theorem dX4_readMove_35 : decode cX4_readMove 35 = .ok (.ifCond .ne 29, 3) := by decide +kernel
theorem dX4_readMove_38 : decode cX4_readMove 38 = .ok (.iload_n 1, 1) := by decide +kernel
theorem dX4_readMove_39 : decode cX4_readMove 39 = .ok (.bipush 43, 2) := by decide +kernel
theorem dX4_readMove_41 : decode cX4_readMove 41 = .ok (.if_icmp .eq 23, 3) := by decide +kernel
theorem dX4_readMove_44 : decode cX4_readMove 44 = .ok (.iload_n 1, 1) := by decide +kernel
theorem dX4_readMove_45 : decode cX4_readMove 45 = .ok (.bipush 45, 2) := by decide +kernel
theorem dX4_readMove_47 : decode cX4_readMove 47 = .ok (.if_icmp .eq 17, 3) := by decide +kernel
theorem dX4_readMove_50 : decode cX4_readMove 50 = .ok (.iload_n 1, 1) := by decide +kernel
theorem dX4_readMove_51 : decode cX4_readMove 51 = .ok (.bipush 42, 2) := by decide +kernel
theorem dX4_readMove_53 : decode cX4_readMove 53 = .ok (.if_icmp .eq 11, 3) := by decide +kernel
theorem dX4_readMove_56 : decode cX4_readMove 56 = .ok (.iload_n 1, 1) := by decide +kernel
theorem dX4_readMove_57 : decode cX4_readMove 57 = .ok (.bipush 33, 2) := by decide +kernel
theorem dX4_readMove_59 : decode cX4_readMove 59 = .ok (.if_icmp .eq 5, 3) := by decide +kernel
theorem dX4_readMove_62 : decode cX4_readMove 62 = .ok (.iconst 0, 1) := by decide +kernel
theorem dX4_readMove_63 : decode cX4_readMove 63 = .ok (.ireturn, 1) := by decide +kernel
theorem dX4_readMove_64 : decode cX4_readMove 64 = .ok (.iload_n 2, 1) := by decide +kernel
theorem dX4_readMove_65 : decode cX4_readMove 65 = .ok (.ifCond .eq 10, 3) := by decide +kernel
theorem dX4_readMove_68 : decode cX4_readMove 68 = .ok (.iload_n 1, 1) := by decide +kernel
theorem dX4_readMove_69 : decode cX4_readMove 69 = .ok (.bipush 48, 2) := by decide +kernel
theorem dX4_readMove_71 : decode cX4_readMove 71 = .ok (.isub, 1) := by decide +kernel
theorem dX4_readMove_72 : decode cX4_readMove 72 = .ok (.goto 8, 3) := by decide +kernel
theorem dX4_readMove_75 : decode cX4_readMove 75 = .ok (.iload_n 1, 1) := by decide +kernel
theorem dX4_readMove_76 : decode cX4_readMove 76 = .ok (.sipush 1000, 3) := by decide +kernel
theorem dX4_readMove_79 : decode cX4_readMove 79 = .ok (.isub, 1) := by decide +kernel
theorem dX4_readMove_80 : decode cX4_readMove 80 = .ok (.istore_n 3, 1) := by decide +kernel
theorem dX4_readMove_81 : decode cX4_readMove 81 = .ok (.aload_n 0, 1) := by decide +kernel
theorem dX4_readMove_82 : decode cX4_readMove 82 = .ok (.dup, 1) := by decide +kernel
theorem dX4_readMove_83 : decode cX4_readMove 83 = .ok (.getfield 121, 3) := by decide +kernel
theorem dX4_readMove_86 : decode cX4_readMove 86 = .ok (.iconst 1, 1) := by decide +kernel
theorem dX4_readMove_87 : decode cX4_readMove 87 = .ok (.iadd, 1) := by decide +kernel
theorem dX4_readMove_88 : decode cX4_readMove 88 = .ok (.putfield 121, 3) := by decide +kernel
theorem dX4_readMove_91 : decode cX4_readMove 91 = .ok (.iload_n 3, 1) := by decide +kernel
theorem dX4_readMove_92 : decode cX4_readMove 92 = .ok (.ifCond .le 68, 3) := by decide +kernel
theorem dX4_readMove_95 : decode cX4_readMove 95 = .ok (.aload_n 0, 1) := by decide +kernel
theorem dX4_readMove_96 : decode cX4_readMove 96 = .ok (.bipush 48, 2) := by decide +kernel
theorem dX4_readMove_98 : decode cX4_readMove 98 = .ok (.bipush 57, 2) := by decide +kernel
theorem dX4_readMove_100 : decode cX4_readMove 100 = .ok (.invokevirtual 124, 3) := by decide +kernel
theorem dX4_readMove_103 : decode cX4_readMove 103 = .ok (.ifCond .eq 57, 3) := by decide +kernel
theorem dX4_readMove_106 : decode cX4_readMove 106 = .ok (.bipush 10, 2) := by decide +kernel
theorem dX4_readMove_108 : decode cX4_readMove 108 = .ok (.iload_n 3, 1) := by decide +kernel
theorem dX4_readMove_109 : decode cX4_readMove 109 = .ok (.imul, 1) := by decide +kernel
theorem dX4_readMove_110 : decode cX4_readMove 110 = .ok (.aload_n 0, 1) := by decide +kernel
theorem dX4_readMove_111 : decode cX4_readMove 111 = .ok (.getfield 26, 3) := by decide +kernel
theorem dX4_readMove_114 : decode cX4_readMove 114 = .ok (.aload_n 0, 1) := by decide +kernel
theorem dX4_readMove_115 : decode cX4_readMove 115 = .ok (.getfield 121, 3) := by decide +kernel
theorem dX4_readMove_118 : decode cX4_readMove 118 = .ok (.iaload, 1) := by decide +kernel
theorem dX4_readMove_119 : decode cX4_readMove 119 = .ok (.iadd, 1) := by decide +kernel
theorem dX4_readMove_120 : decode cX4_readMove 120 = .ok (.bipush 48, 2) := by decide +kernel
theorem dX4_readMove_122 : decode cX4_readMove 122 = .ok (.isub, 1) := by decide +kernel
theorem dX4_readMove_123 : decode cX4_readMove 123 = .ok (.sipush 9999, 3) := by decide +kernel
theorem dX4_readMove_126 : decode cX4_readMove 126 = .ok (.if_icmp .gt 34, 3) := by decide +kernel
theorem dX4_readMove_129 : decode cX4_readMove 129 = .ok (.bipush 10, 2) := by decide +kernel
theorem dX4_readMove_131 : decode cX4_readMove 131 = .ok (.iload_n 3, 1) := by decide +kernel
theorem dX4_readMove_132 : decode cX4_readMove 132 = .ok (.imul, 1) := by decide +kernel
theorem dX4_readMove_133 : decode cX4_readMove 133 = .ok (.aload_n 0, 1) := by decide +kernel
theorem dX4_readMove_134 : decode cX4_readMove 134 = .ok (.getfield 26, 3) := by decide +kernel
theorem dX4_readMove_137 : decode cX4_readMove 137 = .ok (.aload_n 0, 1) := by decide +kernel
theorem dX4_readMove_138 : decode cX4_readMove 138 = .ok (.getfield 121, 3) := by decide +kernel
theorem dX4_readMove_141 : decode cX4_readMove 141 = .ok (.iaload, 1) := by decide +kernel
theorem dX4_readMove_142 : decode cX4_readMove 142 = .ok (.iadd, 1) := by decide +kernel
theorem dX4_readMove_143 : decode cX4_readMove 143 = .ok (.bipush 48, 2) := by decide +kernel
theorem dX4_readMove_145 : decode cX4_readMove 145 = .ok (.isub, 1) := by decide +kernel
theorem dX4_readMove_146 : decode cX4_readMove 146 = .ok (.istore_n 3, 1) := by decide +kernel
theorem dX4_readMove_147 : decode cX4_readMove 147 = .ok (.aload_n 0, 1) := by decide +kernel
theorem dX4_readMove_148 : decode cX4_readMove 148 = .ok (.dup, 1) := by decide +kernel
theorem dX4_readMove_149 : decode cX4_readMove 149 = .ok (.getfield 121, 3) := by decide +kernel
theorem dX4_readMove_152 : decode cX4_readMove 152 = .ok (.iconst 1, 1) := by decide +kernel
theorem dX4_readMove_153 : decode cX4_readMove 153 = .ok (.iadd, 1) := by decide +kernel
theorem dX4_readMove_154 : decode cX4_readMove 154 = .ok (.putfield 121, 3) := by decide +kernel
theorem dX4_readMove_157 : decode cX4_readMove 157 = .ok (.goto (-66), 3) := by decide +kernel
theorem dX4_readMove_160 : decode cX4_readMove 160 = .ok (.aload_n 0, 1) := by decide +kernel
theorem dX4_readMove_161 : decode cX4_readMove 161 = .ok (.getfield 29, 3) := by decide +kernel
theorem dX4_readMove_164 : decode cX4_readMove 164 = .ok (.aload_n 0, 1) := by decide +kernel
theorem dX4_readMove_165 : decode cX4_readMove 165 = .ok (.getfield 127, 3) := by decide +kernel
theorem dX4_readMove_168 : decode cX4_readMove 168 = .ok (.iload_n 3, 1) := by decide +kernel
theorem dX4_readMove_169 : decode cX4_readMove 169 = .ok (.iastore, 1) := by decide +kernel
theorem dX4_readMove_170 : decode cX4_readMove 170 = .ok (.aload_n 0, 1) := by decide +kernel
theorem dX4_readMove_171 : decode cX4_readMove 171 = .ok (.dup, 1) := by decide +kernel
theorem dX4_readMove_172 : decode cX4_readMove 172 = .ok (.getfield 127, 3) := by decide +kernel
theorem dX4_readMove_175 : decode cX4_readMove 175 = .ok (.iconst 1, 1) := by decide +kernel
theorem dX4_readMove_176 : decode cX4_readMove 176 = .ok (.iadd, 1) := by decide +kernel
theorem dX4_readMove_177 : decode cX4_readMove 177 = .ok (.putfield 127, 3) := by decide +kernel
theorem dX4_readMove_180 : decode cX4_readMove 180 = .ok (.iconst 1, 1) := by decide +kernel
theorem dX4_readMove_181 : decode cX4_readMove 181 = .ok (.ireturn, 1) := by decide +kernel
set_option maxRecDepth 20000 in
theorem ggX4_readPad_X4_readMove : GoodIn wsX4_readPad wsX4_readMove := goodIn_r _ [8, 1, 3, 9, 10, 2, 11, 12, 7, 13, 14, 15, 16, 17, 22, 23, 24, 25, 26, 27, 28, 29, 30, 31, 32] (by decide +kernel) (by decide +kernel)
set_option maxRecDepth 20000 in
theorem gX4_readPad_X4_readMove : GoodIn wsX4_readPad (wsV RX4 130 RX4 yX4_readMove wsX4_readMove) := goodIn_app (goodIn_of _ (by decide +kernel)) ggX4_readPad_X4_readMove
set_option maxRecDepth 20000 in
theorem ggX4_readPad_X4_takes : GoodIn wsX4_readPad wsX4_takes := goodIn_r _ [21, 1, 14, 15, 16, 7, 17, 3, 9, 11, 12, 13, 22, 23, 24, 25, 26, 27, 28, 29, 30, 31, 32] (by decide +kernel) (by decide +kernel)
set_option maxRecDepth 20000 in
theorem gX4_readPad_X4_takes : GoodIn wsX4_readPad (wsV RX4 134 RX4 yX4_takes wsX4_takes) := goodIn_app (goodIn_of _ (by decide +kernel)) ggX4_readPad_X4_takes
theorem dX4_readPad_0 : decode cX4_readPad 0 = .ok (.aload_n 0, 1) := by decide +kernel
theorem dX4_readPad_1 : decode cX4_readPad 1 = .ok (.iconst 0, 1) := by decide +kernel
theorem dX4_readPad_2 : decode cX4_readPad 2 = .ok (.putfield 121, 3) := by decide +kernel
theorem dX4_readPad_5 : decode cX4_readPad 5 = .ok (.aload_n 0, 1) := by decide +kernel
theorem dX4_readPad_6 : decode cX4_readPad 6 = .ok (.iconst 0, 1) := by decide +kernel
theorem dX4_readPad_7 : decode cX4_readPad 7 = .ok (.putfield 127, 3) := by decide +kernel
theorem dX4_readPad_10 : decode cX4_readPad 10 = .ok (.aload_n 0, 1) := by decide +kernel
theorem dX4_readPad_11 : decode cX4_readPad 11 = .ok (.invokevirtual 130, 3) := by decide +kernel
theorem dX4_readPad_14 : decode cX4_readPad 14 = .ok (.istore_n 1, 1) := by decide +kernel
theorem dX4_readPad_15 : decode cX4_readPad 15 = .ok (.iload_n 1, 1) := by decide +kernel
theorem dX4_readPad_16 : decode cX4_readPad 16 = .ok (.ifCond .eq 39, 3) := by decide +kernel
theorem dX4_readPad_19 : decode cX4_readPad 19 = .ok (.aload_n 0, 1) := by decide +kernel
theorem dX4_readPad_20 : decode cX4_readPad 20 = .ok (.getfield 121, 3) := by decide +kernel
theorem dX4_readPad_23 : decode cX4_readPad 23 = .ok (.aload_n 0, 1) := by decide +kernel
theorem dX4_readPad_24 : decode cX4_readPad 24 = .ok (.getfield 117, 3) := by decide +kernel
theorem dX4_readPad_27 : decode cX4_readPad 27 = .ok (.if_icmp .ge 28, 3) := by decide +kernel
theorem dX4_readPad_30 : decode cX4_readPad 30 = .ok (.aload_n 0, 1) := by decide +kernel
theorem dX4_readPad_31 : decode cX4_readPad 31 = .ok (.bipush 44, 2) := by decide +kernel
theorem dX4_readPad_33 : decode cX4_readPad 33 = .ok (.invokevirtual 134, 3) := by decide +kernel
theorem dX4_readPad_36 : decode cX4_readPad 36 = .ok (.ifCond .eq 14, 3) := by decide +kernel
theorem dX4_readPad_39 : decode cX4_readPad 39 = .ok (.aload_n 0, 1) := by decide +kernel
theorem dX4_readPad_40 : decode cX4_readPad 40 = .ok (.invokevirtual 130, 3) := by decide +kernel
theorem dX4_readPad_43 : decode cX4_readPad 43 = .ok (.ifCond .eq 7, 3) := by decide +kernel
theorem dX4_readPad_46 : decode cX4_readPad 46 = .ok (.iconst 1, 1) := by decide +kernel
theorem dX4_readPad_47 : decode cX4_readPad 47 = .ok (.goto 4, 3) := by decide +kernel
theorem dX4_readPad_50 : decode cX4_readPad 50 = .ok (.iconst 0, 1) := by decide +kernel
theorem dX4_readPad_51 : decode cX4_readPad 51 = .ok (.istore_n 1, 1) := by decide +kernel
theorem dX4_readPad_52 : decode cX4_readPad 52 = .ok (.goto (-37), 3) := by decide +kernel
theorem dX4_readPad_55 : decode cX4_readPad 55 = .ok (.iload_n 1, 1) := by decide +kernel
theorem dX4_readPad_56 : decode cX4_readPad 56 = .ok (.ireturn, 1) := by decide +kernel
set_option maxRecDepth 20000 in
theorem ggX4_fault_X4_readPad : GoodIn wsX4_fault wsX4_readPad := goodIn_r _ [7, 2, 8, 9, 10, 11, 12, 6, 13, 14, 15, 16, 17, 18, 19, 20, 21, 22, 23, 24, 25, 26, 27, 28, 29, 30, 31, 32, 33, 34, 35, 36, 37] (by decide +kernel) (by decide +kernel)
set_option maxRecDepth 20000 in
theorem gX4_fault_X4_readPad : GoodIn wsX4_fault (wsV RX4 137 RX4 yX4_readPad wsX4_readPad) := goodIn_app (goodIn_of _ (by decide +kernel)) ggX4_fault_X4_readPad
theorem dX4_fault_0 : decode cX4_fault 0 = .ok (.aload_n 0, 1) := by decide +kernel
theorem dX4_fault_1 : decode cX4_fault 1 = .ok (.invokevirtual 137, 3) := by decide +kernel
theorem dX4_fault_4 : decode cX4_fault 4 = .ok (.ifCond .eq 8, 3) := by decide +kernel
theorem dX4_fault_7 : decode cX4_fault 7 = .ok (.ldc 39, 2) := by decide +kernel
theorem dX4_fault_9 : decode cX4_fault 9 = .ok (.goto 7, 3) := by decide +kernel
theorem dX4_fault_12 : decode cX4_fault 12 = .ok (.aload_n 0, 1) := by decide +kernel
theorem dX4_fault_13 : decode cX4_fault 13 = .ok (.getfield 121, 3) := by decide +kernel
theorem dX4_fault_16 : decode cX4_fault 16 = .ok (.ireturn, 1) := by decide +kernel
set_option maxRecDepth 20000 in
theorem ggX4_can_X4_mayBid : GoodIn wsX4_can wsX4_mayBid := goodIn_r _ [6, 1, 7, 8, 9, 5, 10, 11, 12, 13, 14, 15, 16, 17, 18, 19, 20, 21, 22, 23, 24, 25, 26] (by decide +kernel) (by decide +kernel)
set_option maxRecDepth 20000 in
theorem gX4_can_X4_mayBid : GoodIn wsX4_can (wsV RX4 109 RX4 yX4_mayBid wsX4_mayBid) := goodIn_app (goodIn_of _ (by decide +kernel)) ggX4_can_X4_mayBid
theorem dX4_can_0 : decode cX4_can 0 = .ok (.iload_n 1, 1) := by decide +kernel
theorem dX4_can_1 : decode cX4_can 1 = .ok (.ifCond .lt 9, 3) := by decide +kernel
theorem dX4_can_4 : decode cX4_can 4 = .ok (.aload_n 0, 1) := by decide +kernel
theorem dX4_can_5 : decode cX4_can 5 = .ok (.iload_n 1, 1) := by decide +kernel
theorem dX4_can_6 : decode cX4_can 6 = .ok (.invokevirtual 109, 3) := by decide +kernel
theorem dX4_can_9 : decode cX4_can 9 = .ok (.ireturn, 1) := by decide +kernel
theorem dX4_can_10 : decode cX4_can 10 = .ok (.iload_n 1, 1) := by decide +kernel
theorem dX4_can_11 : decode cX4_can 11 = .ok (.sipush 1000, 3) := by decide +kernel
theorem dX4_can_14 : decode cX4_can 14 = .ok (.iadd, 1) := by decide +kernel
theorem dX4_can_15 : decode cX4_can 15 = .ok (.istore_n 2, 1) := by decide +kernel
theorem dX4_can_16 : decode cX4_can 16 = .ok (.iload_n 2, 1) := by decide +kernel
theorem dX4_can_17 : decode cX4_can 17 = .ok (.bipush 33, 2) := by decide +kernel
theorem dX4_can_19 : decode cX4_can 19 = .ok (.if_icmp .eq 31, 3) := by decide +kernel
theorem dX4_can_22 : decode cX4_can 22 = .ok (.iload_n 2, 1) := by decide +kernel
theorem dX4_can_23 : decode cX4_can 23 = .ok (.bipush 43, 2) := by decide +kernel
theorem dX4_can_25 : decode cX4_can 25 = .ok (.if_icmp .ne 7, 3) := by decide +kernel
theorem dX4_can_28 : decode cX4_can 28 = .ok (.iconst 1, 1) := by decide +kernel
theorem dX4_can_29 : decode cX4_can 29 = .ok (.goto 4, 3) := by decide +kernel
theorem dX4_can_32 : decode cX4_can 32 = .ok (.iconst 0, 1) := by decide +kernel
theorem dX4_can_33 : decode cX4_can 33 = .ok (.aload_n 0, 1) := by decide +kernel
theorem dX4_can_34 : decode cX4_can 34 = .ok (.getfield 7, 3) := by decide +kernel
theorem dX4_can_37 : decode cX4_can 37 = .ok (.iconst 4, 1) := by decide +kernel
theorem dX4_can_38 : decode cX4_can 38 = .ok (.iaload, 1) := by decide +kernel
theorem dX4_can_39 : decode cX4_can 39 = .ok (.ifCond .ne 7, 3) := by decide +kernel
theorem dX4_can_42 : decode cX4_can 42 = .ok (.iconst 1, 1) := by decide +kernel
theorem dX4_can_43 : decode cX4_can 43 = .ok (.goto 4, 3) := by decide +kernel
theorem dX4_can_46 : decode cX4_can 46 = .ok (.iconst 0, 1) := by decide +kernel
theorem dX4_can_47 : decode cX4_can 47 = .ok (.if_icmp .ne 7, 3) := by decide +kernel
theorem dX4_can_50 : decode cX4_can 50 = .ok (.iconst 1, 1) := by decide +kernel
theorem dX4_can_51 : decode cX4_can 51 = .ok (.goto 4, 3) := by decide +kernel
theorem dX4_can_54 : decode cX4_can 54 = .ok (.iconst 0, 1) := by decide +kernel
theorem dX4_can_55 : decode cX4_can 55 = .ok (.ireturn, 1) := by decide +kernel
set_option maxRecDepth 20000 in
theorem ggX4_doMove_X4_beginNow : GoodIn wsX4_doMove wsX4_beginNow := goodIn_r _ [5, 6, 7, 8, 9, 4, 10, 11, 12, 13, 14, 15, 60, 61, 62, 63, 64, 65, 66, 67, 68, 69, 70] (by decide +kernel) (by decide +kernel)
set_option maxRecDepth 20000 in
theorem gX4_doMove_X4_beginNow : GoodIn wsX4_doMove (wsV RX4 103 RX4 yX4_beginNow wsX4_beginNow) := goodIn_app (goodIn_of _ (by decide +kernel)) ggX4_doMove_X4_beginNow
set_option maxRecDepth 20000 in
theorem ggX4_doMove_X4_dropNow : GoodIn wsX4_doMove wsX4_dropNow := goodIn_r _ [19, 6, 11, 20, 21, 22, 4, 23, 24, 25, 26, 27, 28, 29, 30, 31, 12, 13, 14, 15, 32, 33, 34, 35, 36, 37, 38, 39, 7, 8, 9, 10, 60, 61, 62, 63, 64, 65, 66, 67, 68, 69, 70] (by decide +kernel) (by decide +kernel)
set_option maxRecDepth 20000 in
theorem gX4_doMove_X4_dropNow : GoodIn wsX4_doMove (wsV RX4 100 RX4 yX4_dropNow wsX4_dropNow) := goodIn_app (goodIn_of _ (by decide +kernel)) ggX4_doMove_X4_dropNow
set_option maxRecDepth 20000 in
theorem ggX4_doMove_X4_actNow : GoodIn wsX4_doMove wsX4_actNow := goodIn_r _ [43, 6, 44, 45, 46, 4, 47, 11, 48, 49, 50, 51, 52, 53, 54, 55, 28, 29, 30, 31, 12, 13, 14, 15, 16, 17, 18, 19, 20, 21, 22, 23, 24, 25, 26, 27, 32, 33, 34, 35, 36, 37, 38, 39, 7, 8, 9, 10, 60, 61, 62, 63, 64, 65, 66, 67, 68, 69, 70] (by decide +kernel) (by decide +kernel)
set_option maxRecDepth 20000 in
theorem gX4_doMove_X4_actNow : GoodIn wsX4_doMove (wsV RX4 106 RX4 yX4_actNow wsX4_actNow) := goodIn_app (goodIn_of _ (by decide +kernel)) ggX4_doMove_X4_actNow
set_option maxRecDepth 20000 in
theorem ggX4_doMove_X4_finishNow : GoodIn wsX4_doMove wsX4_finishNow := goodIn_r _ [59, 6, 1, 2, 3, 4, 5, 7, 8, 9, 10, 11, 12, 13, 14, 15, 40, 41, 42, 43, 44, 45, 46, 47, 48, 49, 50, 51, 52, 53, 54, 55, 28, 29, 30, 31, 16, 17, 18, 19, 20, 21, 22, 23, 24, 25, 26, 27, 32, 33, 34, 35, 36, 37, 38, 39, 60, 61, 62, 63, 64, 65, 66, 67, 68, 69, 70] (by decide +kernel) (by decide +kernel)
set_option maxRecDepth 20000 in
theorem gX4_doMove_X4_finishNow : GoodIn wsX4_doMove (wsV RX4 112 RX4 yX4_finishNow wsX4_finishNow) := goodIn_app (goodIn_of _ (by decide +kernel)) ggX4_doMove_X4_finishNow
set_option maxRecDepth 20000 in
theorem ggX4_doMove_X4_bidNow : GoodIn wsX4_doMove wsX4_bidNow := goodIn_r _ [55, 6, 28, 29, 30, 4, 31, 11, 12, 13, 14, 15, 60, 61, 62, 63, 64, 65, 66, 67, 68, 69, 70] (by decide +kernel) (by decide +kernel)
set_option maxRecDepth 20000 in
theorem gX4_doMove_X4_bidNow : GoodIn wsX4_doMove (wsV RX4 97 RX4 yX4_bidNow wsX4_bidNow) := goodIn_app (goodIn_of _ (by decide +kernel)) ggX4_doMove_X4_bidNow
theorem dX4_doMove_0 : decode cX4_doMove 0 = .ok (.iload_n 1, 1) := by decide +kernel
theorem dX4_doMove_1 : decode cX4_doMove 1 = .ok (.ifCond .ge 11, 3) := by decide +kernel
theorem dX4_doMove_4 : decode cX4_doMove 4 = .ok (.iload_n 1, 1) := by decide +kernel
theorem dX4_doMove_5 : decode cX4_doMove 5 = .ok (.sipush 1000, 3) := by decide +kernel
theorem dX4_doMove_8 : decode cX4_doMove 8 = .ok (.iadd, 1) := by decide +kernel
theorem dX4_doMove_9 : decode cX4_doMove 9 = .ok (.goto 4, 3) := by decide +kernel
theorem dX4_doMove_12 : decode cX4_doMove 12 = .ok (.iconst 0, 1) := by decide +kernel
theorem dX4_doMove_13 : decode cX4_doMove 13 = .ok (.lookupswitch 72 #[(33, 64), (42, 57), (43, 43), (45, 50)], 43) := by decide +kernel
theorem dX4_doMove_56 : decode cX4_doMove 56 = .ok (.aload_n 0, 1) := by decide +kernel
theorem dX4_doMove_57 : decode cX4_doMove 57 = .ok (.invokevirtual 103, 3) := by decide +kernel
theorem dX4_doMove_60 : decode cX4_doMove 60 = .ok (.goto 30, 3) := by decide +kernel
theorem dX4_doMove_63 : decode cX4_doMove 63 = .ok (.aload_n 0, 1) := by decide +kernel
theorem dX4_doMove_64 : decode cX4_doMove 64 = .ok (.invokevirtual 100, 3) := by decide +kernel
theorem dX4_doMove_67 : decode cX4_doMove 67 = .ok (.goto 23, 3) := by decide +kernel
theorem dX4_doMove_70 : decode cX4_doMove 70 = .ok (.aload_n 0, 1) := by decide +kernel
theorem dX4_doMove_71 : decode cX4_doMove 71 = .ok (.invokevirtual 106, 3) := by decide +kernel
theorem dX4_doMove_74 : decode cX4_doMove 74 = .ok (.goto 16, 3) := by decide +kernel
theorem dX4_doMove_77 : decode cX4_doMove 77 = .ok (.aload_n 0, 1) := by decide +kernel
theorem dX4_doMove_78 : decode cX4_doMove 78 = .ok (.invokevirtual 112, 3) := by decide +kernel
theorem dX4_doMove_81 : decode cX4_doMove 81 = .ok (.pop, 1) := by decide +kernel
theorem dX4_doMove_82 : decode cX4_doMove 82 = .ok (.goto 8, 3) := by decide +kernel
theorem dX4_doMove_85 : decode cX4_doMove 85 = .ok (.aload_n 0, 1) := by decide +kernel
theorem dX4_doMove_86 : decode cX4_doMove 86 = .ok (.iload_n 1, 1) := by decide +kernel
theorem dX4_doMove_87 : decode cX4_doMove 87 = .ok (.invokevirtual 97, 3) := by decide +kernel
theorem dX4_doMove_90 : decode cX4_doMove 90 = .ok (.return_, 1) := by decide +kernel
set_option maxRecDepth 20000 in
theorem ggX4_run_X4_readPad : GoodIn wsX4_run wsX4_readPad := goodIn_r _ [9, 10, 2, 4, 11, 12, 13, 8, 14, 15, 3, 16, 17, 18, 19, 20, 21, 22, 23, 24, 25, 26, 106, 107, 108, 109, 110, 111, 112, 113, 114, 115, 116] (by decide +kernel) (by decide +kernel)
set_option maxRecDepth 20000 in
theorem gX4_run_X4_readPad : GoodIn wsX4_run (wsV RX4 137 RX4 yX4_readPad wsX4_readPad) := goodIn_app (goodIn_of _ (by decide +kernel)) ggX4_run_X4_readPad
set_option maxRecDepth 20000 in
theorem ggX4_run_X4_record : GoodIn wsX4_run wsX4_record := goodIn_r _ [30, 31, 32, 33, 34, 35, 8, 36, 106, 107, 108, 109, 110, 111, 112, 113, 114, 115, 116] (by decide +kernel) (by decide +kernel)
set_option maxRecDepth 20000 in
theorem gX4_run_X4_record : GoodIn wsX4_run (wsV RX4 54 RX4 yX4_record wsX4_record) := goodIn_app (goodIn_of _ (by decide +kernel)) ggX4_run_X4_record
set_option maxRecDepth 20000 in
theorem ggX4_run_X4_can : GoodIn wsX4_run wsX4_can := goodIn_r _ [40, 33, 41, 42, 43, 8, 44, 45, 46, 47, 48, 49, 50, 51, 52, 53, 106, 107, 108, 109, 110, 111, 112, 113, 114, 115, 116] (by decide +kernel) (by decide +kernel)
set_option maxRecDepth 20000 in
theorem gX4_run_X4_can : GoodIn wsX4_run (wsV RX4 141 RX4 yX4_can wsX4_can) := goodIn_app (goodIn_of _ (by decide +kernel)) ggX4_run_X4_can
set_option maxRecDepth 20000 in
theorem ggX4_run_X4_doMove : GoodIn wsX4_run wsX4_doMove := goodIn_r _ [57, 58, 59, 60, 8, 61, 33, 62, 63, 64, 65, 53, 66, 67, 68, 69, 70, 71, 72, 73, 74, 75, 76, 77, 78, 79, 80, 81, 82, 83, 84, 85, 86, 87, 88, 89, 90, 91, 92, 93, 94, 95, 96, 97, 49, 50, 51, 52, 45, 46, 47, 48, 98, 99, 100, 101, 102, 103, 104, 105, 106, 107, 108, 109, 110, 111, 112, 113, 114, 115, 116] (by decide +kernel) (by decide +kernel)
set_option maxRecDepth 20000 in
theorem gX4_run_X4_doMove : GoodIn wsX4_run (wsV RX4 144 RX4 yX4_doMove wsX4_doMove) := goodIn_app (goodIn_of _ (by decide +kernel)) ggX4_run_X4_doMove
theorem dX4_run_0 : decode cX4_run 0 = .ok (.aload_n 0, 1) := by decide +kernel
theorem dX4_run_1 : decode cX4_run 1 = .ok (.invokevirtual 137, 3) := by decide +kernel
theorem dX4_run_4 : decode cX4_run 4 = .ok (.ifCond .ne 6, 3) := by decide +kernel
theorem dX4_run_7 : decode cX4_run 7 = .ok (.ldc 140, 2) := by decide +kernel
theorem dX4_run_9 : decode cX4_run 9 = .ok (.ireturn, 1) := by decide +kernel
theorem dX4_run_10 : decode cX4_run 10 = .ok (.aload_n 0, 1) := by decide +kernel
theorem dX4_run_11 : decode cX4_run 11 = .ok (.invokevirtual 54, 3) := by decide +kernel
theorem dX4_run_14 : decode cX4_run 14 = .ok (.iconst 0, 1) := by decide +kernel
theorem dX4_run_15 : decode cX4_run 15 = .ok (.istore_n 1, 1) := by decide +kernel
theorem dX4_run_16 : decode cX4_run 16 = .ok (.iload_n 1, 1) := by decide +kernel
theorem dX4_run_17 : decode cX4_run 17 = .ok (.aload_n 0, 1) := by decide +kernel
theorem dX4_run_18 : decode cX4_run 18 = .ok (.getfield 127, 3) := by decide +kernel
theorem dX4_run_21 : decode cX4_run 21 = .ok (.if_icmp .ge 32, 3) := by decide +kernel
theorem dX4_run_24 : decode cX4_run 24 = .ok (.aload_n 0, 1) := by decide +kernel
theorem dX4_run_25 : decode cX4_run 25 = .ok (.aload_n 0, 1) := by decide +kernel
theorem dX4_run_26 : decode cX4_run 26 = .ok (.getfield 29, 3) := by decide +kernel
theorem dX4_run_29 : decode cX4_run 29 = .ok (.iload_n 1, 1) := by decide +kernel
theorem dX4_run_30 : decode cX4_run 30 = .ok (.iaload, 1) := by decide +kernel
theorem dX4_run_31 : decode cX4_run 31 = .ok (.invokevirtual 141, 3) := by decide +kernel
theorem dX4_run_34 : decode cX4_run 34 = .ok (.ifCond .eq 19, 3) := by decide +kernel
theorem dX4_run_37 : decode cX4_run 37 = .ok (.aload_n 0, 1) := by decide +kernel
theorem dX4_run_38 : decode cX4_run 38 = .ok (.aload_n 0, 1) := by decide +kernel
theorem dX4_run_39 : decode cX4_run 39 = .ok (.getfield 29, 3) := by decide +kernel
theorem dX4_run_42 : decode cX4_run 42 = .ok (.iload_n 1, 1) := by decide +kernel
theorem dX4_run_43 : decode cX4_run 43 = .ok (.iaload, 1) := by decide +kernel
theorem dX4_run_44 : decode cX4_run 44 = .ok (.invokevirtual 144, 3) := by decide +kernel
theorem dX4_run_47 : decode cX4_run 47 = .ok (.iinc 1 1, 3) := by decide +kernel
theorem dX4_run_50 : decode cX4_run 50 = .ok (.goto (-34), 3) := by decide +kernel
theorem dX4_run_53 : decode cX4_run 53 = .ok (.aload_n 0, 1) := by decide +kernel
theorem dX4_run_54 : decode cX4_run 54 = .ok (.iconst 0, 1) := by decide +kernel
theorem dX4_run_55 : decode cX4_run 55 = .ok (.putfield 117, 3) := by decide +kernel
theorem dX4_run_58 : decode cX4_run 58 = .ok (.iload_n 1, 1) := by decide +kernel
theorem dX4_run_59 : decode cX4_run 59 = .ok (.ireturn, 1) := by decide +kernel
set_option maxRecDepth 20000 in
theorem ggX4_player_X4_isPlayer : GoodIn wsX4_player wsX4_isPlayer := goodIn_r _ [7, 8, 9, 6, 10] (by decide +kernel) (by decide +kernel)
set_option maxRecDepth 20000 in
theorem gX4_player_X4_isPlayer : GoodIn wsX4_player (va_wsS RX4 65 yX4_isPlayer wsX4_isPlayer) := goodIn_app (goodIn_of _ (by decide +kernel)) ggX4_player_X4_isPlayer
set_option maxRecDepth 20000 in
theorem ggX4_player_X4_in : GoodIn wsX4_player wsX4_in := goodIn_r _ [10] (by decide +kernel) (by decide +kernel)
set_option maxRecDepth 20000 in
theorem gX4_player_X4_in : GoodIn wsX4_player (va_wsS RX4 35 yX4_in wsX4_in) := goodIn_app (goodIn_of _ (by decide +kernel)) ggX4_player_X4_in
theorem dX4_player_0 : decode cX4_player 0 = .ok (.iload_n 1, 1) := by decide +kernel
theorem dX4_player_1 : decode cX4_player 1 = .ok (.invokestatic 65, 3) := by decide +kernel
theorem dX4_player_4 : decode cX4_player 4 = .ok (.ifCond .ne 6, 3) := by decide +kernel
theorem dX4_player_7 : decode cX4_player 7 = .ok (.ldc 69, 2) := by decide +kernel
theorem dX4_player_9 : decode cX4_player 9 = .ok (.ireturn, 1) := by decide +kernel
theorem dX4_player_10 : decode cX4_player 10 = .ok (.iload_n 2, 1) := by decide +kernel
theorem dX4_player_11 : decode cX4_player 11 = .ok (.iconst 0, 1) := by decide +kernel
theorem dX4_player_12 : decode cX4_player 12 = .ok (.bipush 7, 2) := by decide +kernel
theorem dX4_player_14 : decode cX4_player 14 = .ok (.invokestatic 35, 3) := by decide +kernel
theorem dX4_player_17 : decode cX4_player 17 = .ok (.ifCond .eq 19, 3) := by decide +kernel
theorem dX4_player_20 : decode cX4_player 20 = .ok (.aload_n 0, 1) := by decide +kernel
theorem dX4_player_21 : decode cX4_player 21 = .ok (.getfield 7, 3) := by decide +kernel
theorem dX4_player_24 : decode cX4_player 24 = .ok (.bipush 8, 2) := by decide +kernel
theorem dX4_player_26 : decode cX4_player 26 = .ok (.iconst 5, 1) := by decide +kernel
theorem dX4_player_27 : decode cX4_player 27 = .ok (.iload_n 2, 1) := by decide +kernel
theorem dX4_player_28 : decode cX4_player 28 = .ok (.imul, 1) := by decide +kernel
theorem dX4_player_29 : decode cX4_player 29 = .ok (.iadd, 1) := by decide +kernel
theorem dX4_player_30 : decode cX4_player 30 = .ok (.iload_n 1, 1) := by decide +kernel
theorem dX4_player_31 : decode cX4_player 31 = .ok (.iadd, 1) := by decide +kernel
theorem dX4_player_32 : decode cX4_player 32 = .ok (.iaload, 1) := by decide +kernel
theorem dX4_player_33 : decode cX4_player 33 = .ok (.goto 5, 3) := by decide +kernel
theorem dX4_player_36 : decode cX4_player 36 = .ok (.ldc 49, 2) := by decide +kernel
theorem dX4_player_38 : decode cX4_player 38 = .ok (.ireturn, 1) := by decide +kernel
set_option maxRecDepth 20000 in
theorem ggX4_at_X4_isPlayer : GoodIn wsX4_at wsX4_isPlayer := goodIn_r _ [5, 6, 7, 4, 8] (by decide +kernel) (by decide +kernel)
set_option maxRecDepth 20000 in
theorem gX4_at_X4_isPlayer : GoodIn wsX4_at (va_wsS RX4 65 yX4_isPlayer wsX4_isPlayer) := goodIn_app (goodIn_of _ (by decide +kernel)) ggX4_at_X4_isPlayer
set_option maxRecDepth 20000 in
theorem ggX4_at_X4_playerAt : GoodIn wsX4_at wsX4_playerAt := goodIn_r _ [12, 13, 14, 15, 16, 17, 18, 19, 20, 21, 22, 23, 24, 25] (by decide +kernel) (by decide +kernel)
set_option maxRecDepth 20000 in
theorem gX4_at_X4_playerAt : GoodIn wsX4_at (wsV RX4 70 RX4 yX4_playerAt wsX4_playerAt) := goodIn_app (goodIn_of _ (by decide +kernel)) ggX4_at_X4_playerAt
theorem dX4_at_0 : decode cX4_at 0 = .ok (.iload_n 1, 1) := by decide +kernel
theorem dX4_at_1 : decode cX4_at 1 = .ok (.invokestatic 65, 3) := by decide +kernel
theorem dX4_at_4 : decode cX4_at 4 = .ok (.ifCond .eq 11, 3) := by decide +kernel
theorem dX4_at_7 : decode cX4_at 7 = .ok (.aload_n 0, 1) := by decide +kernel
theorem dX4_at_8 : decode cX4_at 8 = .ok (.iload_n 1, 1) := by decide +kernel
theorem dX4_at_9 : decode cX4_at 9 = .ok (.invokevirtual 70, 3) := by decide +kernel
theorem dX4_at_12 : decode cX4_at 12 = .ok (.goto 5, 3) := by decide +kernel
theorem dX4_at_15 : decode cX4_at 15 = .ok (.ldc 69, 2) := by decide +kernel
theorem dX4_at_17 : decode cX4_at 17 = .ok (.ireturn, 1) := by decide +kernel
theorem dX4_leftSet_0 : decode cX4_leftSet 0 = .ok (.iconst 0, 1) := by decide +kernel
theorem dX4_leftSet_1 : decode cX4_leftSet 1 = .ok (.istore_n 1, 1) := by decide +kernel
theorem dX4_leftSet_2 : decode cX4_leftSet 2 = .ok (.iconst 0, 1) := by decide +kernel
theorem dX4_leftSet_3 : decode cX4_leftSet 3 = .ok (.istore_n 2, 1) := by decide +kernel
theorem dX4_leftSet_4 : decode cX4_leftSet 4 = .ok (.iload_n 2, 1) := by decide +kernel
theorem dX4_leftSet_5 : decode cX4_leftSet 5 = .ok (.iconst 5, 1) := by decide +kernel
theorem dX4_leftSet_6 : decode cX4_leftSet 6 = .ok (.if_icmp .ge 43, 3) := by decide +kernel
theorem dX4_leftSet_9 : decode cX4_leftSet 9 = .ok (.aload_n 0, 1) := by decide +kernel
theorem dX4_leftSet_10 : decode cX4_leftSet 10 = .ok (.getfield 7, 3) := by decide +kernel
theorem dX4_leftSet_13 : decode cX4_leftSet 13 = .ok (.iconst 4, 1) := by decide +kernel
theorem dX4_leftSet_14 : decode cX4_leftSet 14 = .ok (.iaload, 1) := by decide +kernel
theorem dX4_leftSet_15 : decode cX4_leftSet 15 = .ok (.iconst 1, 1) := by decide +kernel
theorem dX4_leftSet_16 : decode cX4_leftSet 16 = .ok (.if_icmp .ne 33, 3) := by decide +kernel
theorem dX4_leftSet_19 : decode cX4_leftSet 19 = .ok (.iload_n 1, 1) := by decide +kernel
theorem dX4_leftSet_20 : decode cX4_leftSet 20 = .ok (.aload_n 0, 1) := by decide +kernel
theorem dX4_leftSet_21 : decode cX4_leftSet 21 = .ok (.getfield 7, 3) := by decide +kernel
theorem dX4_leftSet_24 : decode cX4_leftSet 24 = .ok (.bipush 28, 2) := by decide +kernel
theorem dX4_leftSet_26 : decode cX4_leftSet 26 = .ok (.iload_n 2, 1) := by decide +kernel
theorem dX4_leftSet_27 : decode cX4_leftSet 27 = .ok (.iadd, 1) := by decide +kernel
theorem dX4_leftSet_28 : decode cX4_leftSet 28 = .ok (.iaload, 1) := by decide +kernel
theorem dX4_leftSet_29 : decode cX4_leftSet 29 = .ok (.ldc 39, 2) := by decide +kernel
theorem dX4_leftSet_31 : decode cX4_leftSet 31 = .ok (.if_icmp .ne 9, 3) := by decide +kernel
theorem dX4_leftSet_34 : decode cX4_leftSet 34 = .ok (.iconst 1, 1) := by decide +kernel
theorem dX4_leftSet_35 : decode cX4_leftSet 35 = .ok (.iload_n 2, 1) := by decide +kernel
theorem dX4_leftSet_36 : decode cX4_leftSet 36 = .ok (.ishl, 1) := by decide +kernel
theorem dX4_leftSet_37 : decode cX4_leftSet 37 = .ok (.goto 4, 3) := by decide +kernel
theorem dX4_leftSet_40 : decode cX4_leftSet 40 = .ok (.iconst 0, 1) := by decide +kernel
theorem dX4_leftSet_41 : decode cX4_leftSet 41 = .ok (.ior, 1) := by decide +kernel
theorem dX4_leftSet_42 : decode cX4_leftSet 42 = .ok (.istore_n 1, 1) := by decide +kernel
theorem dX4_leftSet_43 : decode cX4_leftSet 43 = .ok (.iinc 2 1, 3) := by decide +kernel
theorem dX4_leftSet_46 : decode cX4_leftSet 46 = .ok (.goto (-42), 3) := by decide +kernel
theorem dX4_leftSet_49 : decode cX4_leftSet 49 = .ok (.iload_n 1, 1) := by decide +kernel
theorem dX4_leftSet_50 : decode cX4_leftSet 50 = .ok (.ireturn, 1) := by decide +kernel
set_option maxRecDepth 20000 in
theorem ggX4_count_X4_least : GoodIn wsX4_count wsX4_least := goodIn_r _ [10, 1, 2, 19, 20, 21, 22, 23, 24, 25, 26, 27, 28, 29] (by decide +kernel) (by decide +kernel)
set_option maxRecDepth 20000 in
theorem gX4_count_X4_least : GoodIn wsX4_count (wsV RX4 73 RX4 yX4_least wsX4_least) := goodIn_app (goodIn_of _ (by decide +kernel)) ggX4_count_X4_least
set_option maxRecDepth 20000 in
theorem ggX4_count_X4_leftSet : GoodIn wsX4_count wsX4_leftSet := goodIn_r _ [14, 1, 2, 19, 20, 21, 22, 23, 24, 25, 26, 27, 28, 29] (by decide +kernel) (by decide +kernel)
set_option maxRecDepth 20000 in
theorem gX4_count_X4_leftSet : GoodIn wsX4_count (wsV RX4 147 RX4 yX4_leftSet wsX4_leftSet) := goodIn_app (goodIn_of _ (by decide +kernel)) ggX4_count_X4_leftSet
set_option maxRecDepth 20000 in
theorem ggX4_count_X4_sum : GoodIn wsX4_count wsX4_sum := goodIn_r _ [18, 1, 19, 20, 21, 22, 23, 24, 25, 26, 27, 28, 29] (by decide +kernel) (by decide +kernel)
set_option maxRecDepth 20000 in
theorem gX4_count_X4_sum : GoodIn wsX4_count (wsV RX4 50 RX4 yX4_sum wsX4_sum) := goodIn_app (goodIn_of _ (by decide +kernel)) ggX4_count_X4_sum
theorem dX4_count_0 : decode cX4_count 0 = .ok (.iload_n 1, 1) := by decide +kernel
theorem dX4_count_1 : decode cX4_count 1 = .ok (.tableswitch 157 0 15 #[79, 79, 79, 79, 79, 79, 79, 86, 106, 111, 119, 126, 133, 140, 147, 152], 79) := by decide +kernel
theorem dX4_count_80 : decode cX4_count 80 = .ok (.aload_n 0, 1) := by decide +kernel
theorem dX4_count_81 : decode cX4_count 81 = .ok (.getfield 7, 3) := by decide +kernel
theorem dX4_count_84 : decode cX4_count 84 = .ok (.iload_n 1, 1) := by decide +kernel
theorem dX4_count_85 : decode cX4_count 85 = .ok (.iaload, 1) := by decide +kernel
theorem dX4_count_86 : decode cX4_count 86 = .ok (.ireturn, 1) := by decide +kernel
theorem dX4_count_87 : decode cX4_count 87 = .ok (.aload_n 0, 1) := by decide +kernel
theorem dX4_count_88 : decode cX4_count 88 = .ok (.getfield 7, 3) := by decide +kernel
theorem dX4_count_91 : decode cX4_count 91 = .ok (.iconst 4, 1) := by decide +kernel
theorem dX4_count_92 : decode cX4_count 92 = .ok (.iaload, 1) := by decide +kernel
theorem dX4_count_93 : decode cX4_count 93 = .ok (.iconst 1, 1) := by decide +kernel
theorem dX4_count_94 : decode cX4_count 94 = .ok (.if_icmp .ne 10, 3) := by decide +kernel
theorem dX4_count_97 : decode cX4_count 97 = .ok (.aload_n 0, 1) := by decide +kernel
theorem dX4_count_98 : decode cX4_count 98 = .ok (.invokevirtual 73, 3) := by decide +kernel
theorem dX4_count_101 : decode cX4_count 101 = .ok (.goto 5, 3) := by decide +kernel
theorem dX4_count_104 : decode cX4_count 104 = .ok (.ldc 39, 2) := by decide +kernel
theorem dX4_count_106 : decode cX4_count 106 = .ok (.ireturn, 1) := by decide +kernel
theorem dX4_count_107 : decode cX4_count 107 = .ok (.aload_n 0, 1) := by decide +kernel
theorem dX4_count_108 : decode cX4_count 108 = .ok (.invokevirtual 147, 3) := by decide +kernel
theorem dX4_count_111 : decode cX4_count 111 = .ok (.ireturn, 1) := by decide +kernel
theorem dX4_count_112 : decode cX4_count 112 = .ok (.aload_n 0, 1) := by decide +kernel
theorem dX4_count_113 : decode cX4_count 113 = .ok (.getfield 7, 3) := by decide +kernel
theorem dX4_count_116 : decode cX4_count 116 = .ok (.bipush 7, 2) := by decide +kernel
theorem dX4_count_118 : decode cX4_count 118 = .ok (.iaload, 1) := by decide +kernel
theorem dX4_count_119 : decode cX4_count 119 = .ok (.ireturn, 1) := by decide +kernel
theorem dX4_count_120 : decode cX4_count 120 = .ok (.aload_n 0, 1) := by decide +kernel
theorem dX4_count_121 : decode cX4_count 121 = .ok (.bipush 8, 2) := by decide +kernel
theorem dX4_count_123 : decode cX4_count 123 = .ok (.invokevirtual 50, 3) := by decide +kernel
theorem dX4_count_126 : decode cX4_count 126 = .ok (.ireturn, 1) := by decide +kernel
theorem dX4_count_127 : decode cX4_count 127 = .ok (.aload_n 0, 1) := by decide +kernel
theorem dX4_count_128 : decode cX4_count 128 = .ok (.bipush 33, 2) := by decide +kernel
theorem dX4_count_130 : decode cX4_count 130 = .ok (.invokevirtual 50, 3) := by decide +kernel
theorem dX4_count_133 : decode cX4_count 133 = .ok (.ireturn, 1) := by decide +kernel
theorem dX4_count_134 : decode cX4_count 134 = .ok (.aload_n 0, 1) := by decide +kernel
theorem dX4_count_135 : decode cX4_count 135 = .ok (.bipush 38, 2) := by decide +kernel
theorem dX4_count_137 : decode cX4_count 137 = .ok (.invokevirtual 50, 3) := by decide +kernel
theorem dX4_count_140 : decode cX4_count 140 = .ok (.ireturn, 1) := by decide +kernel
theorem dX4_count_141 : decode cX4_count 141 = .ok (.aload_n 0, 1) := by decide +kernel
theorem dX4_count_142 : decode cX4_count 142 = .ok (.bipush 48, 2) := by decide +kernel
theorem dX4_count_144 : decode cX4_count 144 = .ok (.invokevirtual 50, 3) := by decide +kernel
theorem dX4_count_147 : decode cX4_count 147 = .ok (.ireturn, 1) := by decide +kernel
theorem dX4_count_148 : decode cX4_count 148 = .ok (.aload_n 0, 1) := by decide +kernel
theorem dX4_count_149 : decode cX4_count 149 = .ok (.getfield 117, 3) := by decide +kernel
theorem dX4_count_152 : decode cX4_count 152 = .ok (.ireturn, 1) := by decide +kernel
theorem dX4_count_153 : decode cX4_count 153 = .ok (.aload_n 0, 1) := by decide +kernel
theorem dX4_count_154 : decode cX4_count 154 = .ok (.getfield 40, 3) := by decide +kernel
theorem dX4_count_157 : decode cX4_count 157 = .ok (.ireturn, 1) := by decide +kernel
theorem dX4_count_158 : decode cX4_count 158 = .ok (.ldc 49, 2) := by decide +kernel
theorem dX4_count_160 : decode cX4_count 160 = .ok (.ireturn, 1) := by decide +kernel
set_option maxRecDepth 20000 in
theorem ggX4_prizeOf_X4_isPlayer : GoodIn wsX4_prizeOf wsX4_isPlayer := goodIn_r _ [6, 7, 8, 5, 9] (by decide +kernel) (by decide +kernel)
set_option maxRecDepth 20000 in
theorem gX4_prizeOf_X4_isPlayer : GoodIn wsX4_prizeOf (va_wsS RX4 65 yX4_isPlayer wsX4_isPlayer) := goodIn_app (goodIn_of _ (by decide +kernel)) ggX4_prizeOf_X4_isPlayer
theorem dX4_prizeOf_0 : decode cX4_prizeOf 0 = .ok (.iload_n 1, 1) := by decide +kernel
theorem dX4_prizeOf_1 : decode cX4_prizeOf 1 = .ok (.invokestatic 65, 3) := by decide +kernel
theorem dX4_prizeOf_4 : decode cX4_prizeOf 4 = .ok (.ifCond .eq 15, 3) := by decide +kernel
theorem dX4_prizeOf_7 : decode cX4_prizeOf 7 = .ok (.aload_n 0, 1) := by decide +kernel
theorem dX4_prizeOf_8 : decode cX4_prizeOf 8 = .ok (.getfield 7, 3) := by decide +kernel
theorem dX4_prizeOf_11 : decode cX4_prizeOf 11 = .ok (.bipush 48, 2) := by decide +kernel
theorem dX4_prizeOf_13 : decode cX4_prizeOf 13 = .ok (.iload_n 1, 1) := by decide +kernel
theorem dX4_prizeOf_14 : decode cX4_prizeOf 14 = .ok (.iadd, 1) := by decide +kernel
theorem dX4_prizeOf_15 : decode cX4_prizeOf 15 = .ok (.iaload, 1) := by decide +kernel
theorem dX4_prizeOf_16 : decode cX4_prizeOf 16 = .ok (.goto 5, 3) := by decide +kernel
theorem dX4_prizeOf_19 : decode cX4_prizeOf 19 = .ok (.ldc 69, 2) := by decide +kernel
theorem dX4_prizeOf_21 : decode cX4_prizeOf 21 = .ok (.ireturn, 1) := by decide +kernel
set_option maxRecDepth 20000 in
theorem ggX4_ifFinished_X4_isPlayer : GoodIn wsX4_ifFinished wsX4_isPlayer := goodIn_r _ [8, 9, 10, 7, 11] (by decide +kernel) (by decide +kernel)
set_option maxRecDepth 20000 in
theorem gX4_ifFinished_X4_isPlayer : GoodIn wsX4_ifFinished (va_wsS RX4 65 yX4_isPlayer wsX4_isPlayer) := goodIn_app (goodIn_of _ (by decide +kernel)) ggX4_ifFinished_X4_isPlayer
set_option maxRecDepth 20000 in
theorem ggX4_ifFinished_X4_in : GoodIn wsX4_ifFinished wsX4_in := goodIn_r _ [11] (by decide +kernel) (by decide +kernel)
set_option maxRecDepth 20000 in
theorem gX4_ifFinished_X4_in : GoodIn wsX4_ifFinished (va_wsS RX4 35 yX4_in wsX4_in) := goodIn_app (goodIn_of _ (by decide +kernel)) ggX4_ifFinished_X4_in
set_option maxRecDepth 20000 in
theorem ggX4_ifFinished_X4_copyState : GoodIn wsX4_ifFinished wsX4_copyState := goodIn_r _ [14] (by decide +kernel) (by decide +kernel)
set_option maxRecDepth 20000 in
theorem gX4_ifFinished_X4_copyState : GoodIn wsX4_ifFinished (va_wsS RX4 44 yX4_copyState wsX4_copyState) := goodIn_app (goodIn_of _ (by decide +kernel)) ggX4_ifFinished_X4_copyState
set_option maxRecDepth 20000 in
theorem ggX4_ifFinished_X4_finishNow : GoodIn wsX4_ifFinished wsX4_finishNow := goodIn_r _ [18, 3, 19, 20, 21, 7, 22, 23, 24, 25, 26, 27, 28, 29, 30, 31, 32, 33, 34, 35, 36, 37, 38, 39, 40, 41, 42, 43, 44, 45, 46, 47, 48, 49, 50, 51, 52, 53, 54, 55, 56, 57, 58, 59, 60, 61, 62, 63, 64, 65, 66, 67, 68, 69, 70, 71, 72, 73, 74, 75, 76, 77, 78, 79, 80, 81, 82] (by decide +kernel) (by decide +kernel)
set_option maxRecDepth 20000 in
theorem gX4_ifFinished_X4_finishNow : GoodIn wsX4_ifFinished (wsV RX4 112 RX4 yX4_finishNow wsX4_finishNow) := goodIn_app (goodIn_of _ (by decide +kernel)) ggX4_ifFinished_X4_finishNow
theorem dX4_ifFinished_0 : decode cX4_ifFinished 0 = .ok (.iload_n 1, 1) := by decide +kernel
theorem dX4_ifFinished_1 : decode cX4_ifFinished 1 = .ok (.invokestatic 65, 3) := by decide +kernel
theorem dX4_ifFinished_4 : decode cX4_ifFinished 4 = .ok (.ifCond .ne 6, 3) := by decide +kernel
theorem dX4_ifFinished_7 : decode cX4_ifFinished 7 = .ok (.ldc 69, 2) := by decide +kernel
theorem dX4_ifFinished_9 : decode cX4_ifFinished 9 = .ok (.ireturn, 1) := by decide +kernel
theorem dX4_ifFinished_10 : decode cX4_ifFinished 10 = .ok (.iload_n 2, 1) := by decide +kernel
theorem dX4_ifFinished_11 : decode cX4_ifFinished 11 = .ok (.iconst 0, 1) := by decide +kernel
theorem dX4_ifFinished_12 : decode cX4_ifFinished 12 = .ok (.iconst 3, 1) := by decide +kernel
theorem dX4_ifFinished_13 : decode cX4_ifFinished 13 = .ok (.invokestatic 35, 3) := by decide +kernel
theorem dX4_ifFinished_16 : decode cX4_ifFinished 16 = .ok (.ifCond .ne 6, 3) := by decide +kernel
theorem dX4_ifFinished_19 : decode cX4_ifFinished 19 = .ok (.ldc 49, 2) := by decide +kernel
theorem dX4_ifFinished_21 : decode cX4_ifFinished 21 = .ok (.ireturn, 1) := by decide +kernel
theorem dX4_ifFinished_22 : decode cX4_ifFinished 22 = .ok (.aload_n 0, 1) := by decide +kernel
theorem dX4_ifFinished_23 : decode cX4_ifFinished 23 = .ok (.getfield 7, 3) := by decide +kernel
theorem dX4_ifFinished_26 : decode cX4_ifFinished 26 = .ok (.iconst 0, 1) := by decide +kernel
theorem dX4_ifFinished_27 : decode cX4_ifFinished 27 = .ok (.aload_n 0, 1) := by decide +kernel
theorem dX4_ifFinished_28 : decode cX4_ifFinished 28 = .ok (.getfield 13, 3) := by decide +kernel
theorem dX4_ifFinished_31 : decode cX4_ifFinished 31 = .ok (.iconst 0, 1) := by decide +kernel
theorem dX4_ifFinished_32 : decode cX4_ifFinished 32 = .ok (.invokestatic 44, 3) := by decide +kernel
theorem dX4_ifFinished_35 : decode cX4_ifFinished 35 = .ok (.aload_n 0, 1) := by decide +kernel
theorem dX4_ifFinished_36 : decode cX4_ifFinished 36 = .ok (.invokevirtual 112, 3) := by decide +kernel
theorem dX4_ifFinished_39 : decode cX4_ifFinished 39 = .ok (.pop, 1) := by decide +kernel
theorem dX4_ifFinished_40 : decode cX4_ifFinished 40 = .ok (.iload_n 2, 1) := by decide +kernel
theorem dX4_ifFinished_41 : decode cX4_ifFinished 41 = .ok (.iconst 1, 1) := by decide +kernel
theorem dX4_ifFinished_42 : decode cX4_ifFinished 42 = .ok (.if_icmp .ne 8, 3) := by decide +kernel
theorem dX4_ifFinished_45 : decode cX4_ifFinished 45 = .ok (.bipush 33, 2) := by decide +kernel
theorem dX4_ifFinished_47 : decode cX4_ifFinished 47 = .ok (.goto 15, 3) := by decide +kernel
theorem dX4_ifFinished_50 : decode cX4_ifFinished 50 = .ok (.iload_n 2, 1) := by decide +kernel
theorem dX4_ifFinished_51 : decode cX4_ifFinished 51 = .ok (.iconst 2, 1) := by decide +kernel
theorem dX4_ifFinished_52 : decode cX4_ifFinished 52 = .ok (.if_icmp .ne 8, 3) := by decide +kernel
theorem dX4_ifFinished_55 : decode cX4_ifFinished 55 = .ok (.bipush 38, 2) := by decide +kernel
theorem dX4_ifFinished_57 : decode cX4_ifFinished 57 = .ok (.goto 5, 3) := by decide +kernel
theorem dX4_ifFinished_60 : decode cX4_ifFinished 60 = .ok (.bipush 8, 2) := by decide +kernel
theorem dX4_ifFinished_62 : decode cX4_ifFinished 62 = .ok (.istore_n 3, 1) := by decide +kernel
theorem dX4_ifFinished_63 : decode cX4_ifFinished 63 = .ok (.aload_n 0, 1) := by decide +kernel
theorem dX4_ifFinished_64 : decode cX4_ifFinished 64 = .ok (.getfield 7, 3) := by decide +kernel
theorem dX4_ifFinished_67 : decode cX4_ifFinished 67 = .ok (.iload_n 3, 1) := by decide +kernel
theorem dX4_ifFinished_68 : decode cX4_ifFinished 68 = .ok (.iload_n 1, 1) := by decide +kernel
theorem dX4_ifFinished_69 : decode cX4_ifFinished 69 = .ok (.iadd, 1) := by decide +kernel
theorem dX4_ifFinished_70 : decode cX4_ifFinished 70 = .ok (.iaload, 1) := by decide +kernel
theorem dX4_ifFinished_71 : decode cX4_ifFinished 71 = .ok (.aload_n 0, 1) := by decide +kernel
theorem dX4_ifFinished_72 : decode cX4_ifFinished 72 = .ok (.getfield 13, 3) := by decide +kernel
theorem dX4_ifFinished_75 : decode cX4_ifFinished 75 = .ok (.iload_n 3, 1) := by decide +kernel
theorem dX4_ifFinished_76 : decode cX4_ifFinished 76 = .ok (.iload_n 1, 1) := by decide +kernel
theorem dX4_ifFinished_77 : decode cX4_ifFinished 77 = .ok (.iadd, 1) := by decide +kernel
theorem dX4_ifFinished_78 : decode cX4_ifFinished 78 = .ok (.iaload, 1) := by decide +kernel
theorem dX4_ifFinished_79 : decode cX4_ifFinished 79 = .ok (.isub, 1) := by decide +kernel
theorem dX4_ifFinished_80 : decode cX4_ifFinished 80 = .ok (.istore 4, 2) := by decide +kernel
theorem dX4_ifFinished_82 : decode cX4_ifFinished 82 = .ok (.aload_n 0, 1) := by decide +kernel
theorem dX4_ifFinished_83 : decode cX4_ifFinished 83 = .ok (.getfield 7, 3) := by decide +kernel
theorem dX4_ifFinished_86 : decode cX4_ifFinished 86 = .ok (.bipush 18, 2) := by decide +kernel
theorem dX4_ifFinished_88 : decode cX4_ifFinished 88 = .ok (.iload_n 1, 1) := by decide +kernel
theorem dX4_ifFinished_89 : decode cX4_ifFinished 89 = .ok (.iadd, 1) := by decide +kernel
theorem dX4_ifFinished_90 : decode cX4_ifFinished 90 = .ok (.iaload, 1) := by decide +kernel
theorem dX4_ifFinished_91 : decode cX4_ifFinished 91 = .ok (.istore 5, 2) := by decide +kernel
theorem dX4_ifFinished_93 : decode cX4_ifFinished 93 = .ok (.aload_n 0, 1) := by decide +kernel
theorem dX4_ifFinished_94 : decode cX4_ifFinished 94 = .ok (.getfield 13, 3) := by decide +kernel
theorem dX4_ifFinished_97 : decode cX4_ifFinished 97 = .ok (.iconst 0, 1) := by decide +kernel
theorem dX4_ifFinished_98 : decode cX4_ifFinished 98 = .ok (.aload_n 0, 1) := by decide +kernel
theorem dX4_ifFinished_99 : decode cX4_ifFinished 99 = .ok (.getfield 7, 3) := by decide +kernel
theorem dX4_ifFinished_102 : decode cX4_ifFinished 102 = .ok (.iconst 0, 1) := by decide +kernel
theorem dX4_ifFinished_103 : decode cX4_ifFinished 103 = .ok (.invokestatic 44, 3) := by decide +kernel
theorem dX4_ifFinished_106 : decode cX4_ifFinished 106 = .ok (.iload_n 2, 1) := by decide +kernel
theorem dX4_ifFinished_107 : decode cX4_ifFinished 107 = .ok (.ifCond .ne 8, 3) := by decide +kernel
theorem dX4_ifFinished_110 : decode cX4_ifFinished 110 = .ok (.iload 5, 2) := by decide +kernel
theorem dX4_ifFinished_112 : decode cX4_ifFinished 112 = .ok (.goto 5, 3) := by decide +kernel
theorem dX4_ifFinished_115 : decode cX4_ifFinished 115 = .ok (.iload 4, 2) := by decide +kernel
theorem dX4_ifFinished_117 : decode cX4_ifFinished 117 = .ok (.ireturn, 1) := by decide +kernel
set_option maxRecDepth 20000 in
theorem ggX4_bestLimit_X4_isPlayer : GoodIn wsX4_bestLimit wsX4_isPlayer := goodIn_r _ [9, 10, 11, 8, 12] (by decide +kernel) (by decide +kernel)
set_option maxRecDepth 20000 in
theorem gX4_bestLimit_X4_isPlayer : GoodIn wsX4_bestLimit (va_wsS RX4 65 yX4_isPlayer wsX4_isPlayer) := goodIn_app (goodIn_of _ (by decide +kernel)) ggX4_bestLimit_X4_isPlayer
set_option maxRecDepth 20000 in
theorem ggX4_bestLimit_X4_in : GoodIn wsX4_bestLimit wsX4_in := goodIn_r _ [12] (by decide +kernel) (by decide +kernel)
set_option maxRecDepth 20000 in
theorem gX4_bestLimit_X4_in : GoodIn wsX4_bestLimit (va_wsS RX4 35 yX4_in wsX4_in) := goodIn_app (goodIn_of _ (by decide +kernel)) ggX4_bestLimit_X4_in
set_option maxRecDepth 20000 in
theorem ggX4_bestLimit_X4_copyState : GoodIn wsX4_bestLimit wsX4_copyState := goodIn_r _ [15] (by decide +kernel) (by decide +kernel)
set_option maxRecDepth 20000 in
theorem gX4_bestLimit_X4_copyState : GoodIn wsX4_bestLimit (va_wsS RX4 44 yX4_copyState wsX4_copyState) := goodIn_app (goodIn_of _ (by decide +kernel)) ggX4_bestLimit_X4_copyState
set_option maxRecDepth 20000 in
theorem ggX4_bestLimit_X4_finishNow : GoodIn wsX4_bestLimit wsX4_finishNow := goodIn_r _ [19, 4, 20, 21, 22, 8, 23, 24, 25, 26, 27, 3, 28, 29, 30, 31, 32, 33, 34, 35, 36, 37, 38, 39, 40, 41, 42, 43, 44, 45, 46, 47, 48, 49, 50, 51, 52, 53, 54, 55, 56, 57, 58, 59, 60, 61, 62, 63, 64, 65, 66, 67, 68, 69, 70, 71, 72, 73, 74, 75, 76, 77, 78, 79, 80, 81, 82] (by decide +kernel) (by decide +kernel)
set_option maxRecDepth 20000 in
theorem gX4_bestLimit_X4_finishNow : GoodIn wsX4_bestLimit (wsV RX4 112 RX4 yX4_finishNow wsX4_finishNow) := goodIn_app (goodIn_of _ (by decide +kernel)) ggX4_bestLimit_X4_finishNow
theorem dX4_bestLimit_0 : decode cX4_bestLimit 0 = .ok (.iload_n 1, 1) := by decide +kernel
theorem dX4_bestLimit_1 : decode cX4_bestLimit 1 = .ok (.invokestatic 65, 3) := by decide +kernel
theorem dX4_bestLimit_4 : decode cX4_bestLimit 4 = .ok (.ifCond .ne 6, 3) := by decide +kernel
theorem dX4_bestLimit_7 : decode cX4_bestLimit 7 = .ok (.ldc 69, 2) := by decide +kernel
theorem dX4_bestLimit_9 : decode cX4_bestLimit 9 = .ok (.ireturn, 1) := by decide +kernel
theorem dX4_bestLimit_10 : decode cX4_bestLimit 10 = .ok (.iload_n 2, 1) := by decide +kernel
theorem dX4_bestLimit_11 : decode cX4_bestLimit 11 = .ok (.iconst 0, 1) := by decide +kernel
theorem dX4_bestLimit_12 : decode cX4_bestLimit 12 = .ok (.iconst 1, 1) := by decide +kernel
theorem dX4_bestLimit_13 : decode cX4_bestLimit 13 = .ok (.invokestatic 35, 3) := by decide +kernel
theorem dX4_bestLimit_16 : decode cX4_bestLimit 16 = .ok (.ifCond .ne 6, 3) := by decide +kernel
theorem dX4_bestLimit_19 : decode cX4_bestLimit 19 = .ok (.ldc 49, 2) := by decide +kernel
theorem dX4_bestLimit_21 : decode cX4_bestLimit 21 = .ok (.ireturn, 1) := by decide +kernel
theorem dX4_bestLimit_22 : decode cX4_bestLimit 22 = .ok (.ldc 39, 2) := by decide +kernel
theorem dX4_bestLimit_24 : decode cX4_bestLimit 24 = .ok (.istore_n 3, 1) := by decide +kernel
theorem dX4_bestLimit_25 : decode cX4_bestLimit 25 = .ok (.iconst 0, 1) := by decide +kernel
theorem dX4_bestLimit_26 : decode cX4_bestLimit 26 = .ok (.istore 4, 2) := by decide +kernel
theorem dX4_bestLimit_28 : decode cX4_bestLimit 28 = .ok (.iconst 0, 1) := by decide +kernel
theorem dX4_bestLimit_29 : decode cX4_bestLimit 29 = .ok (.istore 5, 2) := by decide +kernel
theorem dX4_bestLimit_31 : decode cX4_bestLimit 31 = .ok (.iload 5, 2) := by decide +kernel
theorem dX4_bestLimit_33 : decode cX4_bestLimit 33 = .ok (.bipush 100, 2) := by decide +kernel
theorem dX4_bestLimit_35 : decode cX4_bestLimit 35 = .ok (.if_icmp .ge 118, 3) := by decide +kernel
theorem dX4_bestLimit_38 : decode cX4_bestLimit 38 = .ok (.aload_n 0, 1) := by decide +kernel
theorem dX4_bestLimit_39 : decode cX4_bestLimit 39 = .ok (.getfield 7, 3) := by decide +kernel
theorem dX4_bestLimit_42 : decode cX4_bestLimit 42 = .ok (.iconst 0, 1) := by decide +kernel
theorem dX4_bestLimit_43 : decode cX4_bestLimit 43 = .ok (.aload_n 0, 1) := by decide +kernel
theorem dX4_bestLimit_44 : decode cX4_bestLimit 44 = .ok (.getfield 13, 3) := by decide +kernel
theorem dX4_bestLimit_47 : decode cX4_bestLimit 47 = .ok (.iconst 0, 1) := by decide +kernel
theorem dX4_bestLimit_48 : decode cX4_bestLimit 48 = .ok (.invokestatic 44, 3) := by decide +kernel
theorem dX4_bestLimit_51 : decode cX4_bestLimit 51 = .ok (.aload_n 0, 1) := by decide +kernel
theorem dX4_bestLimit_52 : decode cX4_bestLimit 52 = .ok (.getfield 7, 3) := by decide +kernel
theorem dX4_bestLimit_55 : decode cX4_bestLimit 55 = .ok (.bipush 13, 2) := by decide +kernel
theorem dX4_bestLimit_57 : decode cX4_bestLimit 57 = .ok (.iload_n 1, 1) := by decide +kernel
theorem dX4_bestLimit_58 : decode cX4_bestLimit 58 = .ok (.iadd, 1) := by decide +kernel
theorem dX4_bestLimit_59 : decode cX4_bestLimit 59 = .ok (.iload 5, 2) := by decide +kernel
theorem dX4_bestLimit_61 : decode cX4_bestLimit 61 = .ok (.iastore, 1) := by decide +kernel
theorem dX4_bestLimit_62 : decode cX4_bestLimit 62 = .ok (.aload_n 0, 1) := by decide +kernel
theorem dX4_bestLimit_63 : decode cX4_bestLimit 63 = .ok (.invokevirtual 112, 3) := by decide +kernel
theorem dX4_bestLimit_66 : decode cX4_bestLimit 66 = .ok (.pop, 1) := by decide +kernel
theorem dX4_bestLimit_67 : decode cX4_bestLimit 67 = .ok (.aload_n 0, 1) := by decide +kernel
theorem dX4_bestLimit_68 : decode cX4_bestLimit 68 = .ok (.getfield 7, 3) := by decide +kernel
theorem dX4_bestLimit_71 : decode cX4_bestLimit 71 = .ok (.bipush 8, 2) := by decide +kernel
theorem dX4_bestLimit_73 : decode cX4_bestLimit 73 = .ok (.iload_n 1, 1) := by decide +kernel
theorem dX4_bestLimit_74 : decode cX4_bestLimit 74 = .ok (.iadd, 1) := by decide +kernel
theorem dX4_bestLimit_75 : decode cX4_bestLimit 75 = .ok (.iaload, 1) := by decide +kernel
theorem dX4_bestLimit_76 : decode cX4_bestLimit 76 = .ok (.aload_n 0, 1) := by decide +kernel
theorem dX4_bestLimit_77 : decode cX4_bestLimit 77 = .ok (.getfield 13, 3) := by decide +kernel
theorem dX4_bestLimit_80 : decode cX4_bestLimit 80 = .ok (.bipush 8, 2) := by decide +kernel
theorem dX4_bestLimit_82 : decode cX4_bestLimit 82 = .ok (.iload_n 1, 1) := by decide +kernel
theorem dX4_bestLimit_83 : decode cX4_bestLimit 83 = .ok (.iadd, 1) := by decide +kernel
theorem dX4_bestLimit_84 : decode cX4_bestLimit 84 = .ok (.iaload, 1) := by decide +kernel
theorem dX4_bestLimit_85 : decode cX4_bestLimit 85 = .ok (.isub, 1) := by decide +kernel
theorem dX4_bestLimit_86 : decode cX4_bestLimit 86 = .ok (.istore 6, 2) := by decide +kernel
theorem dX4_bestLimit_88 : decode cX4_bestLimit 88 = .ok (.aload_n 0, 1) := by decide +kernel
theorem dX4_bestLimit_89 : decode cX4_bestLimit 89 = .ok (.getfield 13, 3) := by decide +kernel
theorem dX4_bestLimit_92 : decode cX4_bestLimit 92 = .ok (.iconst 0, 1) := by decide +kernel
theorem dX4_bestLimit_93 : decode cX4_bestLimit 93 = .ok (.aload_n 0, 1) := by decide +kernel
theorem dX4_bestLimit_94 : decode cX4_bestLimit 94 = .ok (.getfield 7, 3) := by decide +kernel
theorem dX4_bestLimit_97 : decode cX4_bestLimit 97 = .ok (.iconst 0, 1) := by decide +kernel
theorem dX4_bestLimit_98 : decode cX4_bestLimit 98 = .ok (.invokestatic 44, 3) := by decide +kernel
theorem dX4_bestLimit_101 : decode cX4_bestLimit 101 = .ok (.iload_n 3, 1) := by decide +kernel
theorem dX4_bestLimit_102 : decode cX4_bestLimit 102 = .ok (.ldc 39, 2) := by decide +kernel
theorem dX4_bestLimit_104 : decode cX4_bestLimit 104 = .ok (.if_icmp .eq 10, 3) := by decide +kernel
theorem dX4_bestLimit_107 : decode cX4_bestLimit 107 = .ok (.iload 6, 2) := by decide +kernel
theorem dX4_bestLimit_109 : decode cX4_bestLimit 109 = .ok (.iload 4, 2) := by decide +kernel
theorem dX4_bestLimit_111 : decode cX4_bestLimit 111 = .ok (.if_icmp .le 7, 3) := by decide +kernel
theorem dX4_bestLimit_114 : decode cX4_bestLimit 114 = .ok (.iconst 1, 1) := by decide +kernel
theorem dX4_bestLimit_115 : decode cX4_bestLimit 115 = .ok (.goto 4, 3) := by decide +kernel
theorem dX4_bestLimit_118 : decode cX4_bestLimit 118 = .ok (.iconst 0, 1) := by decide +kernel
theorem dX4_bestLimit_119 : decode cX4_bestLimit 119 = .ok (.istore 7, 2) := by decide +kernel
theorem dX4_bestLimit_121 : decode cX4_bestLimit 121 = .ok (.iload 7, 2) := by decide +kernel
theorem dX4_bestLimit_123 : decode cX4_bestLimit 123 = .ok (.ifCond .eq 8, 3) := by decide +kernel
theorem dX4_bestLimit_126 : decode cX4_bestLimit 126 = .ok (.iload 5, 2) := by decide +kernel
theorem dX4_bestLimit_128 : decode cX4_bestLimit 128 = .ok (.goto 4, 3) := by decide +kernel
theorem dX4_bestLimit_131 : decode cX4_bestLimit 131 = .ok (.iload_n 3, 1) := by decide +kernel
theorem dX4_bestLimit_132 : decode cX4_bestLimit 132 = .ok (.istore_n 3, 1) := by decide +kernel
theorem dX4_bestLimit_133 : decode cX4_bestLimit 133 = .ok (.iload 7, 2) := by decide +kernel
theorem dX4_bestLimit_135 : decode cX4_bestLimit 135 = .ok (.ifCond .eq 8, 3) := by decide +kernel
theorem dX4_bestLimit_138 : decode cX4_bestLimit 138 = .ok (.iload 6, 2) := by decide +kernel
theorem dX4_bestLimit_140 : decode cX4_bestLimit 140 = .ok (.goto 5, 3) := by decide +kernel
theorem dX4_bestLimit_143 : decode cX4_bestLimit 143 = .ok (.iload 4, 2) := by decide +kernel
theorem dX4_bestLimit_145 : decode cX4_bestLimit 145 = .ok (.istore 4, 2) := by decide +kernel
theorem dX4_bestLimit_147 : decode cX4_bestLimit 147 = .ok (.iinc 5 1, 3) := by decide +kernel
theorem dX4_bestLimit_150 : decode cX4_bestLimit 150 = .ok (.goto (-119), 3) := by decide +kernel
theorem dX4_bestLimit_153 : decode cX4_bestLimit 153 = .ok (.iload_n 2, 1) := by decide +kernel
theorem dX4_bestLimit_154 : decode cX4_bestLimit 154 = .ok (.ifCond .ne 7, 3) := by decide +kernel
theorem dX4_bestLimit_157 : decode cX4_bestLimit 157 = .ok (.iload_n 3, 1) := by decide +kernel
theorem dX4_bestLimit_158 : decode cX4_bestLimit 158 = .ok (.goto 5, 3) := by decide +kernel
theorem dX4_bestLimit_161 : decode cX4_bestLimit 161 = .ok (.iload 4, 2) := by decide +kernel
theorem dX4_bestLimit_163 : decode cX4_bestLimit 163 = .ok (.ireturn, 1) := by decide +kernel
set_option maxRecDepth 20000 in
theorem ggX4_play_X4_copyState : GoodIn wsX4_play wsX4_copyState := goodIn_r _ [6] (by decide +kernel) (by decide +kernel)
set_option maxRecDepth 20000 in
theorem gX4_play_X4_copyState : GoodIn wsX4_play (va_wsS RX4 44 yX4_copyState wsX4_copyState) := goodIn_app (goodIn_of _ (by decide +kernel)) ggX4_play_X4_copyState
set_option maxRecDepth 20000 in
theorem ggX4_play_X4_finishNow : GoodIn wsX4_play wsX4_finishNow := goodIn_r _ [10, 1, 11, 12, 13, 5, 14, 15, 16, 17, 18, 19, 20, 21, 22, 23, 24, 25, 26, 27, 28, 29, 30, 31, 32, 33, 34, 35, 36, 37, 38, 39, 40, 41, 42, 43, 44, 45, 46, 47, 48, 49, 50, 51, 52, 53, 54, 55, 56, 57, 58, 59, 60, 61, 62, 63, 64, 65, 66, 67, 68, 69, 70, 71, 72, 73, 74] (by decide +kernel) (by decide +kernel)
set_option maxRecDepth 20000 in
theorem gX4_play_X4_finishNow : GoodIn wsX4_play (wsV RX4 112 RX4 yX4_finishNow wsX4_finishNow) := goodIn_app (goodIn_of _ (by decide +kernel)) ggX4_play_X4_finishNow
theorem dX4_play_0 : decode cX4_play 0 = .ok (.aload_n 0, 1) := by decide +kernel
theorem dX4_play_1 : decode cX4_play 1 = .ok (.getfield 7, 3) := by decide +kernel
theorem dX4_play_4 : decode cX4_play 4 = .ok (.iconst 0, 1) := by decide +kernel
theorem dX4_play_5 : decode cX4_play 5 = .ok (.aload_n 0, 1) := by decide +kernel
theorem dX4_play_6 : decode cX4_play 6 = .ok (.getfield 13, 3) := by decide +kernel
theorem dX4_play_9 : decode cX4_play 9 = .ok (.iconst 0, 1) := by decide +kernel
theorem dX4_play_10 : decode cX4_play 10 = .ok (.invokestatic 44, 3) := by decide +kernel
theorem dX4_play_13 : decode cX4_play 13 = .ok (.iconst 0, 1) := by decide +kernel
theorem dX4_play_14 : decode cX4_play 14 = .ok (.istore_n 2, 1) := by decide +kernel
theorem dX4_play_15 : decode cX4_play 15 = .ok (.iload_n 2, 1) := by decide +kernel
theorem dX4_play_16 : decode cX4_play 16 = .ok (.iload_n 1, 1) := by decide +kernel
theorem dX4_play_17 : decode cX4_play 17 = .ok (.if_icmp .ge 14, 3) := by decide +kernel
theorem dX4_play_20 : decode cX4_play 20 = .ok (.aload_n 0, 1) := by decide +kernel
theorem dX4_play_21 : decode cX4_play 21 = .ok (.invokevirtual 112, 3) := by decide +kernel
theorem dX4_play_24 : decode cX4_play 24 = .ok (.pop, 1) := by decide +kernel
theorem dX4_play_25 : decode cX4_play 25 = .ok (.iinc 2 1, 3) := by decide +kernel
theorem dX4_play_28 : decode cX4_play 28 = .ok (.goto (-13), 3) := by decide +kernel
theorem dX4_play_31 : decode cX4_play 31 = .ok (.return_, 1) := by decide +kernel
set_option maxRecDepth 20000 in
theorem ggX4_coinsBehind_X4_isPlayer : GoodIn wsX4_coinsBehind wsX4_isPlayer := goodIn_r _ [8, 9, 10, 7, 11] (by decide +kernel) (by decide +kernel)
set_option maxRecDepth 20000 in
theorem gX4_coinsBehind_X4_isPlayer : GoodIn wsX4_coinsBehind (va_wsS RX4 65 yX4_isPlayer wsX4_isPlayer) := goodIn_app (goodIn_of _ (by decide +kernel)) ggX4_coinsBehind_X4_isPlayer
set_option maxRecDepth 20000 in
theorem ggX4_coinsBehind_X4_in : GoodIn wsX4_coinsBehind wsX4_in := goodIn_r _ [11] (by decide +kernel) (by decide +kernel)
set_option maxRecDepth 20000 in
theorem gX4_coinsBehind_X4_in : GoodIn wsX4_coinsBehind (va_wsS RX4 35 yX4_in wsX4_in) := goodIn_app (goodIn_of _ (by decide +kernel)) ggX4_coinsBehind_X4_in
set_option maxRecDepth 20000 in
theorem ggX4_coinsBehind_X4_play : GoodIn wsX4_coinsBehind wsX4_play := goodIn_r _ [15, 3, 4, 16, 17, 7, 18, 19, 20, 21, 22, 23, 24, 25, 26, 27, 28, 29, 30, 31, 32, 33, 34, 35, 36, 37, 38, 39, 40, 41, 42, 43, 44, 45, 46, 47, 48, 49, 50, 51, 52, 53, 54, 55, 56, 57, 58, 59, 60, 61, 62, 63, 64, 65, 66, 67, 68, 69, 70, 71, 72, 73, 74, 75, 76, 77, 78, 79, 80, 81, 82, 83, 84, 85, 86] (by decide +kernel) (by decide +kernel)
set_option maxRecDepth 20000 in
theorem gX4_coinsBehind_X4_play : GoodIn wsX4_coinsBehind (wsV RX4 150 RX4 yX4_play wsX4_play) := goodIn_app (goodIn_of _ (by decide +kernel)) ggX4_coinsBehind_X4_play
set_option maxRecDepth 20000 in
theorem ggX4_coinsBehind_X4_copyState : GoodIn wsX4_coinsBehind wsX4_copyState := goodIn_r _ [18] (by decide +kernel) (by decide +kernel)
set_option maxRecDepth 20000 in
theorem gX4_coinsBehind_X4_copyState : GoodIn wsX4_coinsBehind (va_wsS RX4 44 yX4_copyState wsX4_copyState) := goodIn_app (goodIn_of _ (by decide +kernel)) ggX4_coinsBehind_X4_copyState
theorem dX4_coinsBehind_0 : decode cX4_coinsBehind 0 = .ok (.iload_n 1, 1) := by decide +kernel
theorem dX4_coinsBehind_1 : decode cX4_coinsBehind 1 = .ok (.invokestatic 65, 3) := by decide +kernel
theorem dX4_coinsBehind_4 : decode cX4_coinsBehind 4 = .ok (.ifCond .ne 6, 3) := by decide +kernel
theorem dX4_coinsBehind_7 : decode cX4_coinsBehind 7 = .ok (.ldc 69, 2) := by decide +kernel
theorem dX4_coinsBehind_9 : decode cX4_coinsBehind 9 = .ok (.ireturn, 1) := by decide +kernel
theorem dX4_coinsBehind_10 : decode cX4_coinsBehind 10 = .ok (.iload_n 2, 1) := by decide +kernel
theorem dX4_coinsBehind_11 : decode cX4_coinsBehind 11 = .ok (.iconst 1, 1) := by decide +kernel
theorem dX4_coinsBehind_12 : decode cX4_coinsBehind 12 = .ok (.bipush 100, 2) := by decide +kernel
theorem dX4_coinsBehind_14 : decode cX4_coinsBehind 14 = .ok (.invokestatic 35, 3) := by decide +kernel
theorem dX4_coinsBehind_17 : decode cX4_coinsBehind 17 = .ok (.ifCond .ne 6, 3) := by decide +kernel
theorem dX4_coinsBehind_20 : decode cX4_coinsBehind 20 = .ok (.ldc 49, 2) := by decide +kernel
theorem dX4_coinsBehind_22 : decode cX4_coinsBehind 22 = .ok (.ireturn, 1) := by decide +kernel
theorem dX4_coinsBehind_23 : decode cX4_coinsBehind 23 = .ok (.aload_n 0, 1) := by decide +kernel
theorem dX4_coinsBehind_24 : decode cX4_coinsBehind 24 = .ok (.iload_n 2, 1) := by decide +kernel
theorem dX4_coinsBehind_25 : decode cX4_coinsBehind 25 = .ok (.invokevirtual 150, 3) := by decide +kernel
theorem dX4_coinsBehind_28 : decode cX4_coinsBehind 28 = .ok (.aload_n 0, 1) := by decide +kernel
theorem dX4_coinsBehind_29 : decode cX4_coinsBehind 29 = .ok (.getfield 7, 3) := by decide +kernel
theorem dX4_coinsBehind_32 : decode cX4_coinsBehind 32 = .ok (.bipush 8, 2) := by decide +kernel
theorem dX4_coinsBehind_34 : decode cX4_coinsBehind 34 = .ok (.iload_n 1, 1) := by decide +kernel
theorem dX4_coinsBehind_35 : decode cX4_coinsBehind 35 = .ok (.iadd, 1) := by decide +kernel
theorem dX4_coinsBehind_36 : decode cX4_coinsBehind 36 = .ok (.iaload, 1) := by decide +kernel
theorem dX4_coinsBehind_37 : decode cX4_coinsBehind 37 = .ok (.istore_n 3, 1) := by decide +kernel
theorem dX4_coinsBehind_38 : decode cX4_coinsBehind 38 = .ok (.aload_n 0, 1) := by decide +kernel
theorem dX4_coinsBehind_39 : decode cX4_coinsBehind 39 = .ok (.getfield 13, 3) := by decide +kernel
theorem dX4_coinsBehind_42 : decode cX4_coinsBehind 42 = .ok (.iconst 0, 1) := by decide +kernel
theorem dX4_coinsBehind_43 : decode cX4_coinsBehind 43 = .ok (.aload_n 0, 1) := by decide +kernel
theorem dX4_coinsBehind_44 : decode cX4_coinsBehind 44 = .ok (.getfield 7, 3) := by decide +kernel
theorem dX4_coinsBehind_47 : decode cX4_coinsBehind 47 = .ok (.iconst 0, 1) := by decide +kernel
theorem dX4_coinsBehind_48 : decode cX4_coinsBehind 48 = .ok (.invokestatic 44, 3) := by decide +kernel
theorem dX4_coinsBehind_51 : decode cX4_coinsBehind 51 = .ok (.iload_n 3, 1) := by decide +kernel
theorem dX4_coinsBehind_52 : decode cX4_coinsBehind 52 = .ok (.ireturn, 1) := by decide +kernel
set_option maxRecDepth 20000 in
theorem ggX4_richest_X4_in : GoodIn wsX4_richest wsX4_in := goodIn_r _ [7] (by decide +kernel) (by decide +kernel)
set_option maxRecDepth 20000 in
theorem gX4_richest_X4_in : GoodIn wsX4_richest (va_wsS RX4 35 yX4_in wsX4_in) := goodIn_app (goodIn_of _ (by decide +kernel)) ggX4_richest_X4_in
set_option maxRecDepth 20000 in
theorem ggX4_richest_X4_play : GoodIn wsX4_richest wsX4_play := goodIn_r _ [11, 2, 3, 12, 13, 6, 14, 15, 16, 17, 18, 19, 20, 21, 22, 23, 24, 25, 26, 27, 28, 29, 30, 31, 32, 33, 34, 35, 36, 37, 38, 39, 40, 41, 42, 43, 44, 45, 46, 47, 48, 49, 50, 51, 52, 53, 54, 55, 56, 57, 58, 59, 60, 61, 62, 63, 64, 65, 66, 67, 68, 69, 70, 71, 72, 73, 74, 75, 76, 77, 78, 79, 80, 81, 82] (by decide +kernel) (by decide +kernel)
set_option maxRecDepth 20000 in
theorem gX4_richest_X4_play : GoodIn wsX4_richest (wsV RX4 150 RX4 yX4_play wsX4_play) := goodIn_app (goodIn_of _ (by decide +kernel)) ggX4_richest_X4_play
set_option maxRecDepth 20000 in
theorem ggX4_richest_X4_playerAt : GoodIn wsX4_richest wsX4_playerAt := goodIn_r _ [31, 27, 2, 72, 73, 74, 75, 76, 77, 78, 79, 80, 81, 82] (by decide +kernel) (by decide +kernel)
set_option maxRecDepth 20000 in
theorem gX4_richest_X4_playerAt : GoodIn wsX4_richest (wsV RX4 70 RX4 yX4_playerAt wsX4_playerAt) := goodIn_app (goodIn_of _ (by decide +kernel)) ggX4_richest_X4_playerAt
set_option maxRecDepth 20000 in
theorem ggX4_richest_X4_copyState : GoodIn wsX4_richest wsX4_copyState := goodIn_r _ [14] (by decide +kernel) (by decide +kernel)
set_option maxRecDepth 20000 in
theorem gX4_richest_X4_copyState : GoodIn wsX4_richest (va_wsS RX4 44 yX4_copyState wsX4_copyState) := goodIn_app (goodIn_of _ (by decide +kernel)) ggX4_richest_X4_copyState
theorem dX4_richest_0 : decode cX4_richest 0 = .ok (.iload_n 1, 1) := by decide +kernel
theorem dX4_richest_1 : decode cX4_richest 1 = .ok (.iconst 1, 1) := by decide +kernel
theorem dX4_richest_2 : decode cX4_richest 2 = .ok (.bipush 100, 2) := by decide +kernel
theorem dX4_richest_4 : decode cX4_richest 4 = .ok (.invokestatic 35, 3) := by decide +kernel
theorem dX4_richest_7 : decode cX4_richest 7 = .ok (.ifCond .ne 6, 3) := by decide +kernel
theorem dX4_richest_10 : decode cX4_richest 10 = .ok (.ldc 49, 2) := by decide +kernel
theorem dX4_richest_12 : decode cX4_richest 12 = .ok (.ireturn, 1) := by decide +kernel
theorem dX4_richest_13 : decode cX4_richest 13 = .ok (.aload_n 0, 1) := by decide +kernel
theorem dX4_richest_14 : decode cX4_richest 14 = .ok (.iload_n 1, 1) := by decide +kernel
theorem dX4_richest_15 : decode cX4_richest 15 = .ok (.invokevirtual 150, 3) := by decide +kernel
theorem dX4_richest_18 : decode cX4_richest 18 = .ok (.aload_n 0, 1) := by decide +kernel
theorem dX4_richest_19 : decode cX4_richest 19 = .ok (.iconst 0, 1) := by decide +kernel
theorem dX4_richest_20 : decode cX4_richest 20 = .ok (.invokevirtual 70, 3) := by decide +kernel
theorem dX4_richest_23 : decode cX4_richest 23 = .ok (.istore_n 2, 1) := by decide +kernel
theorem dX4_richest_24 : decode cX4_richest 24 = .ok (.iconst 1, 1) := by decide +kernel
theorem dX4_richest_25 : decode cX4_richest 25 = .ok (.istore_n 3, 1) := by decide +kernel
theorem dX4_richest_26 : decode cX4_richest 26 = .ok (.iload_n 3, 1) := by decide +kernel
theorem dX4_richest_27 : decode cX4_richest 27 = .ok (.iconst 5, 1) := by decide +kernel
theorem dX4_richest_28 : decode cX4_richest 28 = .ok (.if_icmp .ge 45, 3) := by decide +kernel
theorem dX4_richest_31 : decode cX4_richest 31 = .ok (.aload_n 0, 1) := by decide +kernel
theorem dX4_richest_32 : decode cX4_richest 32 = .ok (.iload_n 3, 1) := by decide +kernel
theorem dX4_richest_33 : decode cX4_richest 33 = .ok (.invokevirtual 70, 3) := by decide +kernel
theorem dX4_richest_36 : decode cX4_richest 36 = .ok (.istore 4, 2) := by decide +kernel
theorem dX4_richest_38 : decode cX4_richest 38 = .ok (.aload_n 0, 1) := by decide +kernel
theorem dX4_richest_39 : decode cX4_richest 39 = .ok (.getfield 7, 3) := by decide +kernel
theorem dX4_richest_42 : decode cX4_richest 42 = .ok (.bipush 8, 2) := by decide +kernel
theorem dX4_richest_44 : decode cX4_richest 44 = .ok (.iload 4, 2) := by decide +kernel
theorem dX4_richest_46 : decode cX4_richest 46 = .ok (.iadd, 1) := by decide +kernel
theorem dX4_richest_47 : decode cX4_richest 47 = .ok (.iaload, 1) := by decide +kernel
theorem dX4_richest_48 : decode cX4_richest 48 = .ok (.aload_n 0, 1) := by decide +kernel
theorem dX4_richest_49 : decode cX4_richest 49 = .ok (.getfield 7, 3) := by decide +kernel
theorem dX4_richest_52 : decode cX4_richest 52 = .ok (.bipush 8, 2) := by decide +kernel
theorem dX4_richest_54 : decode cX4_richest 54 = .ok (.iload_n 2, 1) := by decide +kernel
theorem dX4_richest_55 : decode cX4_richest 55 = .ok (.iadd, 1) := by decide +kernel
theorem dX4_richest_56 : decode cX4_richest 56 = .ok (.iaload, 1) := by decide +kernel
theorem dX4_richest_57 : decode cX4_richest 57 = .ok (.if_icmp .le 8, 3) := by decide +kernel
theorem dX4_richest_60 : decode cX4_richest 60 = .ok (.iload 4, 2) := by decide +kernel
theorem dX4_richest_62 : decode cX4_richest 62 = .ok (.goto 4, 3) := by decide +kernel
theorem dX4_richest_65 : decode cX4_richest 65 = .ok (.iload_n 2, 1) := by decide +kernel
theorem dX4_richest_66 : decode cX4_richest 66 = .ok (.istore_n 2, 1) := by decide +kernel
theorem dX4_richest_67 : decode cX4_richest 67 = .ok (.iinc 3 1, 3) := by decide +kernel
theorem dX4_richest_70 : decode cX4_richest 70 = .ok (.goto (-44), 3) := by decide +kernel
theorem dX4_richest_73 : decode cX4_richest 73 = .ok (.aload_n 0, 1) := by decide +kernel
theorem dX4_richest_74 : decode cX4_richest 74 = .ok (.getfield 13, 3) := by decide +kernel
theorem dX4_richest_77 : decode cX4_richest 77 = .ok (.iconst 0, 1) := by decide +kernel
theorem dX4_richest_78 : decode cX4_richest 78 = .ok (.aload_n 0, 1) := by decide +kernel
theorem dX4_richest_79 : decode cX4_richest 79 = .ok (.getfield 7, 3) := by decide +kernel
theorem dX4_richest_82 : decode cX4_richest 82 = .ok (.iconst 0, 1) := by decide +kernel
theorem dX4_richest_83 : decode cX4_richest 83 = .ok (.invokestatic 44, 3) := by decide +kernel
theorem dX4_richest_86 : decode cX4_richest 86 = .ok (.iload_n 2, 1) := by decide +kernel
theorem dX4_richest_87 : decode cX4_richest 87 = .ok (.ireturn, 1) := by decide +kernel
set_option maxRecDepth 20000 in
theorem ggX4_movesLeft_X4_copyState : GoodIn wsX4_movesLeft wsX4_copyState := goodIn_r _ [7] (by decide +kernel) (by decide +kernel)
set_option maxRecDepth 20000 in
theorem gX4_movesLeft_X4_copyState : GoodIn wsX4_movesLeft (va_wsS RX4 44 yX4_copyState wsX4_copyState) := goodIn_app (goodIn_of _ (by decide +kernel)) ggX4_movesLeft_X4_copyState
set_option maxRecDepth 20000 in
theorem ggX4_movesLeft_X4_finishNow : GoodIn wsX4_movesLeft wsX4_finishNow := goodIn_r _ [11, 1, 12, 13, 14, 6, 15, 16, 17, 18, 19, 20, 21, 22, 23, 24, 25, 26, 27, 28, 29, 30, 31, 32, 33, 34, 35, 36, 37, 38, 39, 40, 41, 42, 43, 44, 45, 46, 47, 48, 49, 50, 51, 52, 53, 54, 55, 56, 57, 58, 59, 60, 61, 62, 63, 64, 65, 66, 67, 68, 69, 70, 71, 72, 73, 74, 75] (by decide +kernel) (by decide +kernel)
set_option maxRecDepth 20000 in
theorem gX4_movesLeft_X4_finishNow : GoodIn wsX4_movesLeft (wsV RX4 112 RX4 yX4_finishNow wsX4_finishNow) := goodIn_app (goodIn_of _ (by decide +kernel)) ggX4_movesLeft_X4_finishNow
theorem dX4_movesLeft_0 : decode cX4_movesLeft 0 = .ok (.aload_n 0, 1) := by decide +kernel
theorem dX4_movesLeft_1 : decode cX4_movesLeft 1 = .ok (.getfield 7, 3) := by decide +kernel
theorem dX4_movesLeft_4 : decode cX4_movesLeft 4 = .ok (.iconst 4, 1) := by decide +kernel
theorem dX4_movesLeft_5 : decode cX4_movesLeft 5 = .ok (.iaload, 1) := by decide +kernel
theorem dX4_movesLeft_6 : decode cX4_movesLeft 6 = .ok (.ifCond .ne 6, 3) := by decide +kernel
theorem dX4_movesLeft_9 : decode cX4_movesLeft 9 = .ok (.ldc 48, 2) := by decide +kernel
theorem dX4_movesLeft_11 : decode cX4_movesLeft 11 = .ok (.ireturn, 1) := by decide +kernel
theorem dX4_movesLeft_12 : decode cX4_movesLeft 12 = .ok (.aload_n 0, 1) := by decide +kernel
theorem dX4_movesLeft_13 : decode cX4_movesLeft 13 = .ok (.getfield 7, 3) := by decide +kernel
theorem dX4_movesLeft_16 : decode cX4_movesLeft 16 = .ok (.iconst 0, 1) := by decide +kernel
theorem dX4_movesLeft_17 : decode cX4_movesLeft 17 = .ok (.aload_n 0, 1) := by decide +kernel
theorem dX4_movesLeft_18 : decode cX4_movesLeft 18 = .ok (.getfield 13, 3) := by decide +kernel
theorem dX4_movesLeft_21 : decode cX4_movesLeft 21 = .ok (.iconst 0, 1) := by decide +kernel
theorem dX4_movesLeft_22 : decode cX4_movesLeft 22 = .ok (.invokestatic 44, 3) := by decide +kernel
theorem dX4_movesLeft_25 : decode cX4_movesLeft 25 = .ok (.aload_n 0, 1) := by decide +kernel
theorem dX4_movesLeft_26 : decode cX4_movesLeft 26 = .ok (.invokevirtual 112, 3) := by decide +kernel
theorem dX4_movesLeft_29 : decode cX4_movesLeft 29 = .ok (.istore_n 1, 1) := by decide +kernel
theorem dX4_movesLeft_30 : decode cX4_movesLeft 30 = .ok (.aload_n 0, 1) := by decide +kernel
theorem dX4_movesLeft_31 : decode cX4_movesLeft 31 = .ok (.getfield 13, 3) := by decide +kernel
theorem dX4_movesLeft_34 : decode cX4_movesLeft 34 = .ok (.iconst 0, 1) := by decide +kernel
theorem dX4_movesLeft_35 : decode cX4_movesLeft 35 = .ok (.aload_n 0, 1) := by decide +kernel
theorem dX4_movesLeft_36 : decode cX4_movesLeft 36 = .ok (.getfield 7, 3) := by decide +kernel
theorem dX4_movesLeft_39 : decode cX4_movesLeft 39 = .ok (.iconst 0, 1) := by decide +kernel
theorem dX4_movesLeft_40 : decode cX4_movesLeft 40 = .ok (.invokestatic 44, 3) := by decide +kernel
theorem dX4_movesLeft_43 : decode cX4_movesLeft 43 = .ok (.iload_n 1, 1) := by decide +kernel
theorem dX4_movesLeft_44 : decode cX4_movesLeft 44 = .ok (.ireturn, 1) := by decide +kernel
theorem dJ6_bitCount_0f7a4_0 : decode cJ6_bitCount_0f7a4 0 = .ok (.iload_n 0, 1) := by decide +kernel
theorem dJ6_bitCount_0f7a4_1 : decode cJ6_bitCount_0f7a4 1 = .ok (.iload_n 0, 1) := by decide +kernel
theorem dJ6_bitCount_0f7a4_2 : decode cJ6_bitCount_0f7a4 2 = .ok (.iconst 1, 1) := by decide +kernel
theorem dJ6_bitCount_0f7a4_3 : decode cJ6_bitCount_0f7a4 3 = .ok (.iushr, 1) := by decide +kernel
theorem dJ6_bitCount_0f7a4_4 : decode cJ6_bitCount_0f7a4 4 = .ok (.ldc_w 265, 3) := by decide +kernel
theorem dJ6_bitCount_0f7a4_7 : decode cJ6_bitCount_0f7a4 7 = .ok (.iand, 1) := by decide +kernel
theorem dJ6_bitCount_0f7a4_8 : decode cJ6_bitCount_0f7a4 8 = .ok (.isub, 1) := by decide +kernel
theorem dJ6_bitCount_0f7a4_9 : decode cJ6_bitCount_0f7a4 9 = .ok (.istore_n 0, 1) := by decide +kernel
theorem dJ6_bitCount_0f7a4_10 : decode cJ6_bitCount_0f7a4 10 = .ok (.iload_n 0, 1) := by decide +kernel
theorem dJ6_bitCount_0f7a4_11 : decode cJ6_bitCount_0f7a4 11 = .ok (.ldc_w 266, 3) := by decide +kernel
theorem dJ6_bitCount_0f7a4_14 : decode cJ6_bitCount_0f7a4 14 = .ok (.iand, 1) := by decide +kernel
theorem dJ6_bitCount_0f7a4_15 : decode cJ6_bitCount_0f7a4 15 = .ok (.iload_n 0, 1) := by decide +kernel
theorem dJ6_bitCount_0f7a4_16 : decode cJ6_bitCount_0f7a4 16 = .ok (.iconst 2, 1) := by decide +kernel
theorem dJ6_bitCount_0f7a4_17 : decode cJ6_bitCount_0f7a4 17 = .ok (.iushr, 1) := by decide +kernel
theorem dJ6_bitCount_0f7a4_18 : decode cJ6_bitCount_0f7a4 18 = .ok (.ldc_w 266, 3) := by decide +kernel
theorem dJ6_bitCount_0f7a4_21 : decode cJ6_bitCount_0f7a4 21 = .ok (.iand, 1) := by decide +kernel
theorem dJ6_bitCount_0f7a4_22 : decode cJ6_bitCount_0f7a4 22 = .ok (.iadd, 1) := by decide +kernel
theorem dJ6_bitCount_0f7a4_23 : decode cJ6_bitCount_0f7a4 23 = .ok (.istore_n 0, 1) := by decide +kernel
theorem dJ6_bitCount_0f7a4_24 : decode cJ6_bitCount_0f7a4 24 = .ok (.iload_n 0, 1) := by decide +kernel
theorem dJ6_bitCount_0f7a4_25 : decode cJ6_bitCount_0f7a4 25 = .ok (.iload_n 0, 1) := by decide +kernel
theorem dJ6_bitCount_0f7a4_26 : decode cJ6_bitCount_0f7a4 26 = .ok (.iconst 4, 1) := by decide +kernel
theorem dJ6_bitCount_0f7a4_27 : decode cJ6_bitCount_0f7a4 27 = .ok (.iushr, 1) := by decide +kernel
theorem dJ6_bitCount_0f7a4_28 : decode cJ6_bitCount_0f7a4 28 = .ok (.iadd, 1) := by decide +kernel
theorem dJ6_bitCount_0f7a4_29 : decode cJ6_bitCount_0f7a4 29 = .ok (.ldc_w 267, 3) := by decide +kernel
theorem dJ6_bitCount_0f7a4_32 : decode cJ6_bitCount_0f7a4 32 = .ok (.iand, 1) := by decide +kernel
theorem dJ6_bitCount_0f7a4_33 : decode cJ6_bitCount_0f7a4 33 = .ok (.istore_n 0, 1) := by decide +kernel
theorem dJ6_bitCount_0f7a4_34 : decode cJ6_bitCount_0f7a4 34 = .ok (.iload_n 0, 1) := by decide +kernel
theorem dJ6_bitCount_0f7a4_35 : decode cJ6_bitCount_0f7a4 35 = .ok (.iload_n 0, 1) := by decide +kernel
theorem dJ6_bitCount_0f7a4_36 : decode cJ6_bitCount_0f7a4 36 = .ok (.bipush 8, 2) := by decide +kernel
theorem dJ6_bitCount_0f7a4_38 : decode cJ6_bitCount_0f7a4 38 = .ok (.iushr, 1) := by decide +kernel
theorem dJ6_bitCount_0f7a4_39 : decode cJ6_bitCount_0f7a4 39 = .ok (.iadd, 1) := by decide +kernel
theorem dJ6_bitCount_0f7a4_40 : decode cJ6_bitCount_0f7a4 40 = .ok (.istore_n 0, 1) := by decide +kernel
theorem dJ6_bitCount_0f7a4_41 : decode cJ6_bitCount_0f7a4 41 = .ok (.iload_n 0, 1) := by decide +kernel
theorem dJ6_bitCount_0f7a4_42 : decode cJ6_bitCount_0f7a4 42 = .ok (.iload_n 0, 1) := by decide +kernel
theorem dJ6_bitCount_0f7a4_43 : decode cJ6_bitCount_0f7a4 43 = .ok (.bipush 16, 2) := by decide +kernel
theorem dJ6_bitCount_0f7a4_45 : decode cJ6_bitCount_0f7a4 45 = .ok (.iushr, 1) := by decide +kernel
theorem dJ6_bitCount_0f7a4_46 : decode cJ6_bitCount_0f7a4 46 = .ok (.iadd, 1) := by decide +kernel
theorem dJ6_bitCount_0f7a4_47 : decode cJ6_bitCount_0f7a4 47 = .ok (.istore_n 0, 1) := by decide +kernel
theorem dJ6_bitCount_0f7a4_48 : decode cJ6_bitCount_0f7a4 48 = .ok (.iload_n 0, 1) := by decide +kernel
theorem dJ6_bitCount_0f7a4_49 : decode cJ6_bitCount_0f7a4 49 = .ok (.bipush 63, 2) := by decide +kernel
theorem dJ6_bitCount_0f7a4_51 : decode cJ6_bitCount_0f7a4 51 = .ok (.iand, 1) := by decide +kernel
theorem dJ6_bitCount_0f7a4_52 : decode cJ6_bitCount_0f7a4 52 = .ok (.ireturn, 1) := by decide +kernel
theorem dJ9_floorMod_7cf53_0 : decode cJ9_floorMod_7cf53 0 = .ok (.iload_n 0, 1) := by decide +kernel
theorem dJ9_floorMod_7cf53_1 : decode cJ9_floorMod_7cf53 1 = .ok (.iload_n 1, 1) := by decide +kernel
theorem dJ9_floorMod_7cf53_2 : decode cJ9_floorMod_7cf53 2 = .ok (.irem, 1) := by decide +kernel
theorem dJ9_floorMod_7cf53_3 : decode cJ9_floorMod_7cf53 3 = .ok (.istore_n 2, 1) := by decide +kernel
theorem dJ9_floorMod_7cf53_4 : decode cJ9_floorMod_7cf53 4 = .ok (.iload_n 0, 1) := by decide +kernel
theorem dJ9_floorMod_7cf53_5 : decode cJ9_floorMod_7cf53 5 = .ok (.iload_n 1, 1) := by decide +kernel
theorem dJ9_floorMod_7cf53_6 : decode cJ9_floorMod_7cf53 6 = .ok (.ixor, 1) := by decide +kernel
theorem dJ9_floorMod_7cf53_7 : decode cJ9_floorMod_7cf53 7 = .ok (.ifCond .ge 11, 3) := by decide +kernel
theorem dJ9_floorMod_7cf53_10 : decode cJ9_floorMod_7cf53 10 = .ok (.iload_n 2, 1) := by decide +kernel
theorem dJ9_floorMod_7cf53_11 : decode cJ9_floorMod_7cf53 11 = .ok (.ifCond .eq 7, 3) := by decide +kernel
theorem dJ9_floorMod_7cf53_14 : decode cJ9_floorMod_7cf53 14 = .ok (.iload_n 2, 1) := by decide +kernel
theorem dJ9_floorMod_7cf53_15 : decode cJ9_floorMod_7cf53 15 = .ok (.iload_n 1, 1) := by decide +kernel
theorem dJ9_floorMod_7cf53_16 : decode cJ9_floorMod_7cf53 16 = .ok (.iadd, 1) := by decide +kernel
theorem dJ9_floorMod_7cf53_17 : decode cJ9_floorMod_7cf53 17 = .ok (.ireturn, 1) := by decide +kernel
theorem dJ9_floorMod_7cf53_18 : decode cJ9_floorMod_7cf53 18 = .ok (.iload_n 2, 1) := by decide +kernel
theorem dJ9_floorMod_7cf53_19 : decode cJ9_floorMod_7cf53 19 = .ok (.ireturn, 1) := by decide +kernel
theorem dJ9_max_7cf53_0 : decode cJ9_max_7cf53 0 = .ok (.iload_n 0, 1) := by decide +kernel
theorem dJ9_max_7cf53_1 : decode cJ9_max_7cf53 1 = .ok (.iload_n 1, 1) := by decide +kernel
theorem dJ9_max_7cf53_2 : decode cJ9_max_7cf53 2 = .ok (.if_icmp .lt 7, 3) := by decide +kernel
theorem dJ9_max_7cf53_5 : decode cJ9_max_7cf53 5 = .ok (.iload_n 0, 1) := by decide +kernel
theorem dJ9_max_7cf53_6 : decode cJ9_max_7cf53 6 = .ok (.goto 4, 3) := by decide +kernel
theorem dJ9_max_7cf53_9 : decode cJ9_max_7cf53 9 = .ok (.iload_n 1, 1) := by decide +kernel
theorem dJ9_max_7cf53_10 : decode cJ9_max_7cf53 10 = .ok (.ireturn, 1) := by decide +kernel
theorem dJ9_min_7cf53_0 : decode cJ9_min_7cf53 0 = .ok (.iload_n 0, 1) := by decide +kernel
theorem dJ9_min_7cf53_1 : decode cJ9_min_7cf53 1 = .ok (.iload_n 1, 1) := by decide +kernel
theorem dJ9_min_7cf53_2 : decode cJ9_min_7cf53 2 = .ok (.if_icmp .gt 7, 3) := by decide +kernel
theorem dJ9_min_7cf53_5 : decode cJ9_min_7cf53 5 = .ok (.iload_n 0, 1) := by decide +kernel
theorem dJ9_min_7cf53_6 : decode cJ9_min_7cf53 6 = .ok (.goto 4, 3) := by decide +kernel
theorem dJ9_min_7cf53_9 : decode cJ9_min_7cf53 9 = .ok (.iload_n 1, 1) := by decide +kernel
theorem dJ9_min_7cf53_10 : decode cJ9_min_7cf53 10 = .ok (.ireturn, 1) := by decide +kernel
