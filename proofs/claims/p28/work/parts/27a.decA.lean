theorem dL_cell_0 : decode cL_cell 0 = .ok (.iload_n 1, 1) := by decide +kernel
theorem dL_cell_1 : decode cL_cell 1 = .ok (.aload_n 0, 1) := by decide +kernel
theorem dL_cell_2 : decode cL_cell 2 = .ok (.arraylength, 1) := by decide +kernel
theorem dL_cell_3 : decode cL_cell 3 = .ok (.if_icmp .ge 9, 3) := by decide +kernel
theorem dL_cell_6 : decode cL_cell 6 = .ok (.aload_n 0, 1) := by decide +kernel
theorem dL_cell_7 : decode cL_cell 7 = .ok (.iload_n 1, 1) := by decide +kernel
theorem dL_cell_8 : decode cL_cell 8 = .ok (.iaload, 1) := by decide +kernel
theorem dL_cell_9 : decode cL_cell 9 = .ok (.goto 15, 3) := by decide +kernel
theorem dL_cell_12 : decode cL_cell 12 = .ok (.ldc 7, 2) := by decide +kernel
theorem dL_cell_14 : decode cL_cell 14 = .ok (.iload_n 1, 1) := by decide +kernel
theorem dL_cell_15 : decode cL_cell 15 = .ok (.sipush 139, 3) := by decide +kernel
theorem dL_cell_18 : decode cL_cell 18 = .ok (.iadd, 1) := by decide +kernel
theorem dL_cell_19 : decode cL_cell 19 = .ok (.imul, 1) := by decide +kernel
theorem dL_cell_20 : decode cL_cell 20 = .ok (.sipush 29009, 3) := by decide +kernel
theorem dL_cell_23 : decode cL_cell 23 = .ok (.iadd, 1) := by decide +kernel
theorem dL_cell_24 : decode cL_cell 24 = .ok (.ldc 8, 2) := by decide +kernel
theorem dL_cell_26 : decode cL_cell 26 = .ok (.iand, 1) := by decide +kernel
theorem dL_cell_27 : decode cL_cell 27 = .ok (.ireturn, 1) := by decide +kernel
set_option maxRecDepth 20000 in
theorem ggL_seen_X3_count : GoodIn wsL_seen wsX3_count := goodIn_r _ [7, 8, 9, 10, 11, 12, 13, 14, 15, 16, 17, 18, 19, 20, 21, 22, 23, 24, 25, 26, 27, 28, 29, 30, 31, 32, 33, 34, 35, 36, 37, 38, 39, 40, 41, 42, 6, 43, 73, 74, 75, 76, 77, 78, 79, 80, 81, 82, 83, 84, 85, 86, 87, 88, 89, 90, 91, 92, 93, 94, 95] (by decide +kernel) (by decide +kernel)
set_option maxRecDepth 20000 in
theorem gL_seen_X3_count : GoodIn wsL_seen (wsV RL 13 RX3 yX3_count wsX3_count) := goodIn_app (goodIn_of _ (by decide +kernel)) ggL_seen_X3_count
set_option maxRecDepth 20000 in
theorem ggL_seen_X3_player : GoodIn wsL_seen wsX3_player := goodIn_r _ [47, 48, 8, 13, 49, 50, 51, 52, 14, 15, 53, 21, 54, 55, 6, 56, 73, 74, 75, 76, 77, 78, 79, 80, 81, 82, 83, 84, 85, 86, 87, 88, 89, 90] (by decide +kernel) (by decide +kernel)
set_option maxRecDepth 20000 in
theorem gL_seen_X3_player : GoodIn wsL_seen (wsV RL 19 RX3 yX3_player wsX3_player) := goodIn_app (goodIn_of _ (by decide +kernel)) ggL_seen_X3_player
set_option maxRecDepth 20000 in
theorem ggL_seen_X3_at : GoodIn wsL_seen wsX3_at := goodIn_r _ [60, 48, 8, 61, 62, 63, 25, 64, 65, 27, 73, 74, 75, 76, 77, 78, 79, 80, 81, 82, 83, 84, 85, 86, 87, 88, 89, 90] (by decide +kernel) (by decide +kernel)
set_option maxRecDepth 20000 in
theorem gL_seen_X3_at : GoodIn wsL_seen (wsV RL 23 RX3 yX3_at wsX3_at) := goodIn_app (goodIn_of _ (by decide +kernel)) ggL_seen_X3_at
set_option maxRecDepth 20000 in
theorem ggL_seen_X3_prizeOf : GoodIn wsL_seen wsX3_prizeOf := goodIn_r _ [69, 48, 8, 16, 70, 71, 6, 72, 73, 74, 75, 76, 77, 78, 79, 80, 81, 82, 83, 84, 85, 86, 87, 88, 89, 90] (by decide +kernel) (by decide +kernel)
set_option maxRecDepth 20000 in
theorem gL_seen_X3_prizeOf : GoodIn wsL_seen (wsV RL 26 RX3 yX3_prizeOf wsX3_prizeOf) := goodIn_app (goodIn_of _ (by decide +kernel)) ggL_seen_X3_prizeOf
theorem dL_seen_0 : decode cL_seen 0 = .ok (.ldc2_w 9, 3) := by decide +kernel
theorem dL_seen_3 : decode cL_seen 3 = .ok (.lstore_n 1, 1) := by decide +kernel
theorem dL_seen_4 : decode cL_seen 4 = .ok (.iconst 0, 1) := by decide +kernel
theorem dL_seen_5 : decode cL_seen 5 = .ok (.istore_n 3, 1) := by decide +kernel
theorem dL_seen_6 : decode cL_seen 6 = .ok (.iload_n 3, 1) := by decide +kernel
theorem dL_seen_7 : decode cL_seen 7 = .ok (.bipush 14, 2) := by decide +kernel
theorem dL_seen_9 : decode cL_seen 9 = .ok (.if_icmp .ge 22, 3) := by decide +kernel
theorem dL_seen_12 : decode cL_seen 12 = .ok (.ldc2_w 11, 3) := by decide +kernel
theorem dL_seen_15 : decode cL_seen 15 = .ok (.lload_n 1, 1) := by decide +kernel
theorem dL_seen_16 : decode cL_seen 16 = .ok (.lmul, 1) := by decide +kernel
theorem dL_seen_17 : decode cL_seen 17 = .ok (.aload_n 0, 1) := by decide +kernel
theorem dL_seen_18 : decode cL_seen 18 = .ok (.iload_n 3, 1) := by decide +kernel
theorem dL_seen_19 : decode cL_seen 19 = .ok (.invokevirtual 13, 3) := by decide +kernel
theorem dL_seen_22 : decode cL_seen 22 = .ok (.i2l, 1) := by decide +kernel
theorem dL_seen_23 : decode cL_seen 23 = .ok (.ladd, 1) := by decide +kernel
theorem dL_seen_24 : decode cL_seen 24 = .ok (.lstore_n 1, 1) := by decide +kernel
theorem dL_seen_25 : decode cL_seen 25 = .ok (.iinc 3 1, 3) := by decide +kernel
theorem dL_seen_28 : decode cL_seen 28 = .ok (.goto (-22), 3) := by decide +kernel
theorem dL_seen_31 : decode cL_seen 31 = .ok (.iconst 0, 1) := by decide +kernel
theorem dL_seen_32 : decode cL_seen 32 = .ok (.istore_n 3, 1) := by decide +kernel
theorem dL_seen_33 : decode cL_seen 33 = .ok (.iload_n 3, 1) := by decide +kernel
theorem dL_seen_34 : decode cL_seen 34 = .ok (.bipush 40, 2) := by decide +kernel
theorem dL_seen_36 : decode cL_seen 36 = .ok (.if_icmp .ge 29, 3) := by decide +kernel
theorem dL_seen_39 : decode cL_seen 39 = .ok (.ldc2_w 11, 3) := by decide +kernel
theorem dL_seen_42 : decode cL_seen 42 = .ok (.lload_n 1, 1) := by decide +kernel
theorem dL_seen_43 : decode cL_seen 43 = .ok (.lmul, 1) := by decide +kernel
theorem dL_seen_44 : decode cL_seen 44 = .ok (.aload_n 0, 1) := by decide +kernel
theorem dL_seen_45 : decode cL_seen 45 = .ok (.iload_n 3, 1) := by decide +kernel
theorem dL_seen_46 : decode cL_seen 46 = .ok (.bipush 8, 2) := by decide +kernel
theorem dL_seen_48 : decode cL_seen 48 = .ok (.idiv, 1) := by decide +kernel
theorem dL_seen_49 : decode cL_seen 49 = .ok (.iload_n 3, 1) := by decide +kernel
theorem dL_seen_50 : decode cL_seen 50 = .ok (.bipush 8, 2) := by decide +kernel
theorem dL_seen_52 : decode cL_seen 52 = .ok (.irem, 1) := by decide +kernel
theorem dL_seen_53 : decode cL_seen 53 = .ok (.invokevirtual 19, 3) := by decide +kernel
theorem dL_seen_56 : decode cL_seen 56 = .ok (.i2l, 1) := by decide +kernel
theorem dL_seen_57 : decode cL_seen 57 = .ok (.ladd, 1) := by decide +kernel
theorem dL_seen_58 : decode cL_seen 58 = .ok (.lstore_n 1, 1) := by decide +kernel
theorem dL_seen_59 : decode cL_seen 59 = .ok (.iinc 3 1, 3) := by decide +kernel
theorem dL_seen_62 : decode cL_seen 62 = .ok (.goto (-29), 3) := by decide +kernel
theorem dL_seen_65 : decode cL_seen 65 = .ok (.iconst 0, 1) := by decide +kernel
theorem dL_seen_66 : decode cL_seen 66 = .ok (.istore_n 3, 1) := by decide +kernel
theorem dL_seen_67 : decode cL_seen 67 = .ok (.iload_n 3, 1) := by decide +kernel
theorem dL_seen_68 : decode cL_seen 68 = .ok (.iconst 5, 1) := by decide +kernel
theorem dL_seen_69 : decode cL_seen 69 = .ok (.if_icmp .ge 33, 3) := by decide +kernel
theorem dL_seen_72 : decode cL_seen 72 = .ok (.ldc2_w 11, 3) := by decide +kernel
theorem dL_seen_75 : decode cL_seen 75 = .ok (.ldc2_w 11, 3) := by decide +kernel
theorem dL_seen_78 : decode cL_seen 78 = .ok (.lload_n 1, 1) := by decide +kernel
theorem dL_seen_79 : decode cL_seen 79 = .ok (.lmul, 1) := by decide +kernel
theorem dL_seen_80 : decode cL_seen 80 = .ok (.aload_n 0, 1) := by decide +kernel
theorem dL_seen_81 : decode cL_seen 81 = .ok (.iload_n 3, 1) := by decide +kernel
theorem dL_seen_82 : decode cL_seen 82 = .ok (.invokevirtual 23, 3) := by decide +kernel
theorem dL_seen_85 : decode cL_seen 85 = .ok (.i2l, 1) := by decide +kernel
theorem dL_seen_86 : decode cL_seen 86 = .ok (.ladd, 1) := by decide +kernel
theorem dL_seen_87 : decode cL_seen 87 = .ok (.lmul, 1) := by decide +kernel
theorem dL_seen_88 : decode cL_seen 88 = .ok (.aload_n 0, 1) := by decide +kernel
theorem dL_seen_89 : decode cL_seen 89 = .ok (.iload_n 3, 1) := by decide +kernel
theorem dL_seen_90 : decode cL_seen 90 = .ok (.invokevirtual 26, 3) := by decide +kernel
theorem dL_seen_93 : decode cL_seen 93 = .ok (.i2l, 1) := by decide +kernel
theorem dL_seen_94 : decode cL_seen 94 = .ok (.ladd, 1) := by decide +kernel
theorem dL_seen_95 : decode cL_seen 95 = .ok (.lstore_n 1, 1) := by decide +kernel
theorem dL_seen_96 : decode cL_seen 96 = .ok (.iinc 3 1, 3) := by decide +kernel
theorem dL_seen_99 : decode cL_seen 99 = .ok (.goto (-32), 3) := by decide +kernel
theorem dL_seen_102 : decode cL_seen 102 = .ok (.lload_n 1, 1) := by decide +kernel
theorem dL_seen_103 : decode cL_seen 103 = .ok (.lreturn, 1) := by decide +kernel
set_option maxRecDepth 20000 in
theorem ggL_isWhole_X3_count : GoodIn wsL_isWhole wsX3_count := goodIn_r _ [7, 8, 9, 10, 11, 12, 13, 14, 15, 16, 17, 18, 19, 20, 21, 22, 23, 24, 25, 26, 27, 28, 29, 30, 31, 32, 33, 34, 35, 36, 37, 38, 39, 40, 41, 42, 6, 43, 149, 150, 151, 152, 153, 154, 155, 156, 157, 158, 159, 160, 161, 162, 163, 164, 165, 166, 167, 168, 169, 170, 171] (by decide +kernel) (by decide +kernel)
set_option maxRecDepth 20000 in
theorem gL_isWhole_X3_count : GoodIn wsL_isWhole (wsV RL 13 RX3 yX3_count wsX3_count) := goodIn_app (goodIn_of _ (by decide +kernel)) ggL_isWhole_X3_count
set_option maxRecDepth 20000 in
theorem ggL_isWhole_X3_player : GoodIn wsL_isWhole wsX3_player := goodIn_r _ [47, 48, 8, 13, 49, 50, 51, 52, 14, 15, 53, 21, 54, 55, 6, 56, 149, 150, 151, 152, 153, 154, 155, 156, 157, 158, 159, 160, 161, 162, 163, 164, 165, 166] (by decide +kernel) (by decide +kernel)
set_option maxRecDepth 20000 in
theorem gL_isWhole_X3_player : GoodIn wsL_isWhole (wsV RL 19 RX3 yX3_player wsX3_player) := goodIn_app (goodIn_of _ (by decide +kernel)) ggL_isWhole_X3_player
set_option maxRecDepth 20000 in
theorem ggL_isWhole_X3_prizeOf : GoodIn wsL_isWhole wsX3_prizeOf := goodIn_r _ [60, 48, 8, 16, 61, 62, 6, 63, 149, 150, 151, 152, 153, 154, 155, 156, 157, 158, 159, 160, 161, 162, 163, 164, 165, 166] (by decide +kernel) (by decide +kernel)
set_option maxRecDepth 20000 in
theorem gL_isWhole_X3_prizeOf : GoodIn wsL_isWhole (wsV RL 26 RX3 yX3_prizeOf wsX3_prizeOf) := goodIn_app (goodIn_of _ (by decide +kernel)) ggL_isWhole_X3_prizeOf
set_option maxRecDepth 20000 in
theorem ggL_isWhole_X3_at : GoodIn wsL_isWhole wsX3_at := goodIn_r _ [67, 48, 8, 68, 69, 70, 25, 71, 72, 27, 149, 150, 151, 152, 153, 154, 155, 156, 157, 158, 159, 160, 161, 162, 163, 164, 165, 166] (by decide +kernel) (by decide +kernel)
set_option maxRecDepth 20000 in
theorem gL_isWhole_X3_at : GoodIn wsL_isWhole (wsV RL 23 RX3 yX3_at wsX3_at) := goodIn_app (goodIn_of _ (by decide +kernel)) ggL_isWhole_X3_at
set_option maxRecDepth 20000 in
theorem ggL_isWhole_X3_movesLeft : GoodIn wsL_isWhole wsX3_movesLeft := goodIn_r _ [76, 8, 10, 77, 78, 79, 80, 81, 25, 82, 34, 83, 84, 85, 86, 87, 88, 89, 72, 28, 40, 90, 91, 92, 33, 93, 94, 95, 96, 97, 98, 99, 100, 101, 102, 103, 69, 70, 71, 27, 104, 105, 106, 107, 108, 30, 31, 32, 35, 23, 24, 26, 55, 6, 56, 109, 110, 111, 112, 113, 114, 115, 116, 117, 118, 119, 120, 121, 122, 123, 124, 125, 37, 38, 39, 126, 127, 128, 129, 130, 131, 132, 133, 134, 135, 136, 137, 138, 139, 140, 141, 142, 143, 144, 145, 146, 147, 148, 149, 150, 151, 152, 153, 154, 155, 156, 157, 158, 159, 160, 161, 162, 163, 164, 165, 166] (by decide +kernel) (by decide +kernel)
set_option maxRecDepth 20000 in
theorem gL_isWhole_X3_movesLeft : GoodIn wsL_isWhole (wsV RL 32 RX3 yX3_movesLeft wsX3_movesLeft) := goodIn_app (goodIn_of _ (by decide +kernel)) ggL_isWhole_X3_movesLeft
theorem dL_isWhole_0 : decode cL_isWhole 0 = .ok (.iconst 0, 1) := by decide +kernel
theorem dL_isWhole_1 : decode cL_isWhole 1 = .ok (.istore_n 1, 1) := by decide +kernel
theorem dL_isWhole_2 : decode cL_isWhole 2 = .ok (.iconst 0, 1) := by decide +kernel
theorem dL_isWhole_3 : decode cL_isWhole 3 = .ok (.istore_n 2, 1) := by decide +kernel
theorem dL_isWhole_4 : decode cL_isWhole 4 = .ok (.iconst 0, 1) := by decide +kernel
theorem dL_isWhole_5 : decode cL_isWhole 5 = .ok (.istore_n 3, 1) := by decide +kernel
theorem dL_isWhole_6 : decode cL_isWhole 6 = .ok (.iconst 0, 1) := by decide +kernel
theorem dL_isWhole_7 : decode cL_isWhole 7 = .ok (.istore 4, 2) := by decide +kernel
theorem dL_isWhole_9 : decode cL_isWhole 9 = .ok (.iconst 0, 1) := by decide +kernel
theorem dL_isWhole_10 : decode cL_isWhole 10 = .ok (.istore 5, 2) := by decide +kernel
theorem dL_isWhole_12 : decode cL_isWhole 12 = .ok (.iconst 0, 1) := by decide +kernel
theorem dL_isWhole_13 : decode cL_isWhole 13 = .ok (.istore 6, 2) := by decide +kernel
theorem dL_isWhole_15 : decode cL_isWhole 15 = .ok (.iconst 0, 1) := by decide +kernel
theorem dL_isWhole_16 : decode cL_isWhole 16 = .ok (.istore 7, 2) := by decide +kernel
theorem dL_isWhole_18 : decode cL_isWhole 18 = .ok (.iconst 0, 1) := by decide +kernel
theorem dL_isWhole_19 : decode cL_isWhole 19 = .ok (.istore 8, 2) := by decide +kernel
theorem dL_isWhole_21 : decode cL_isWhole 21 = .ok (.ldc 31, 2) := by decide +kernel
theorem dL_isWhole_23 : decode cL_isWhole 23 = .ok (.istore 9, 2) := by decide +kernel
theorem dL_isWhole_25 : decode cL_isWhole 25 = .ok (.aload_n 0, 1) := by decide +kernel
theorem dL_isWhole_26 : decode cL_isWhole 26 = .ok (.iconst 4, 1) := by decide +kernel
theorem dL_isWhole_27 : decode cL_isWhole 27 = .ok (.invokevirtual 13, 3) := by decide +kernel
theorem dL_isWhole_30 : decode cL_isWhole 30 = .ok (.iconst 1, 1) := by decide +kernel
theorem dL_isWhole_31 : decode cL_isWhole 31 = .ok (.if_icmp .ne 7, 3) := by decide +kernel
theorem dL_isWhole_34 : decode cL_isWhole 34 = .ok (.iconst 1, 1) := by decide +kernel
theorem dL_isWhole_35 : decode cL_isWhole 35 = .ok (.goto 4, 3) := by decide +kernel
theorem dL_isWhole_38 : decode cL_isWhole 38 = .ok (.iconst 0, 1) := by decide +kernel
theorem dL_isWhole_39 : decode cL_isWhole 39 = .ok (.istore 10, 2) := by decide +kernel
theorem dL_isWhole_41 : decode cL_isWhole 41 = .ok (.iconst 1, 1) := by decide +kernel
theorem dL_isWhole_42 : decode cL_isWhole 42 = .ok (.istore 11, 2) := by decide +kernel
theorem dL_isWhole_44 : decode cL_isWhole 44 = .ok (.iconst 0, 1) := by decide +kernel
theorem dL_isWhole_45 : decode cL_isWhole 45 = .ok (.istore 12, 2) := by decide +kernel
theorem dL_isWhole_47 : decode cL_isWhole 47 = .ok (.iload 12, 2) := by decide +kernel
theorem dL_isWhole_49 : decode cL_isWhole 49 = .ok (.iconst 5, 1) := by decide +kernel
theorem dL_isWhole_50 : decode cL_isWhole 50 = .ok (.if_icmp .ge 279, 3) := by decide +kernel
theorem dL_isWhole_53 : decode cL_isWhole 53 = .ok (.iload 11, 2) := by decide +kernel
theorem dL_isWhole_55 : decode cL_isWhole 55 = .ok (.ifCond .eq 274, 3) := by decide +kernel
theorem dL_isWhole_58 : decode cL_isWhole 58 = .ok (.aload_n 0, 1) := by decide +kernel
theorem dL_isWhole_59 : decode cL_isWhole 59 = .ok (.iload 12, 2) := by decide +kernel
theorem dL_isWhole_61 : decode cL_isWhole 61 = .ok (.iconst 2, 1) := by decide +kernel
theorem dL_isWhole_62 : decode cL_isWhole 62 = .ok (.invokevirtual 19, 3) := by decide +kernel
theorem dL_isWhole_65 : decode cL_isWhole 65 = .ok (.istore 13, 2) := by decide +kernel
theorem dL_isWhole_67 : decode cL_isWhole 67 = .ok (.aload_n 0, 1) := by decide +kernel
theorem dL_isWhole_68 : decode cL_isWhole 68 = .ok (.iload 12, 2) := by decide +kernel
theorem dL_isWhole_70 : decode cL_isWhole 70 = .ok (.iconst 3, 1) := by decide +kernel
theorem dL_isWhole_71 : decode cL_isWhole 71 = .ok (.invokevirtual 19, 3) := by decide +kernel
theorem dL_isWhole_74 : decode cL_isWhole 74 = .ok (.istore 14, 2) := by decide +kernel
theorem dL_isWhole_76 : decode cL_isWhole 76 = .ok (.aload_n 0, 1) := by decide +kernel
theorem dL_isWhole_77 : decode cL_isWhole 77 = .ok (.iload 12, 2) := by decide +kernel
theorem dL_isWhole_79 : decode cL_isWhole 79 = .ok (.iconst 4, 1) := by decide +kernel
theorem dL_isWhole_80 : decode cL_isWhole 80 = .ok (.invokevirtual 19, 3) := by decide +kernel
theorem dL_isWhole_83 : decode cL_isWhole 83 = .ok (.istore 15, 2) := by decide +kernel
theorem dL_isWhole_85 : decode cL_isWhole 85 = .ok (.iload_n 1, 1) := by decide +kernel
theorem dL_isWhole_86 : decode cL_isWhole 86 = .ok (.aload_n 0, 1) := by decide +kernel
theorem dL_isWhole_87 : decode cL_isWhole 87 = .ok (.iload 12, 2) := by decide +kernel
theorem dL_isWhole_89 : decode cL_isWhole 89 = .ok (.iconst 0, 1) := by decide +kernel
theorem dL_isWhole_90 : decode cL_isWhole 90 = .ok (.invokevirtual 19, 3) := by decide +kernel
theorem dL_isWhole_93 : decode cL_isWhole 93 = .ok (.iadd, 1) := by decide +kernel
theorem dL_isWhole_94 : decode cL_isWhole 94 = .ok (.istore_n 1, 1) := by decide +kernel
theorem dL_isWhole_95 : decode cL_isWhole 95 = .ok (.iload_n 2, 1) := by decide +kernel
theorem dL_isWhole_96 : decode cL_isWhole 96 = .ok (.aload_n 0, 1) := by decide +kernel
theorem dL_isWhole_97 : decode cL_isWhole 97 = .ok (.iload 12, 2) := by decide +kernel
theorem dL_isWhole_99 : decode cL_isWhole 99 = .ok (.iconst 5, 1) := by decide +kernel
theorem dL_isWhole_100 : decode cL_isWhole 100 = .ok (.invokevirtual 19, 3) := by decide +kernel
theorem dL_isWhole_103 : decode cL_isWhole 103 = .ok (.iadd, 1) := by decide +kernel
theorem dL_isWhole_104 : decode cL_isWhole 104 = .ok (.istore_n 2, 1) := by decide +kernel
theorem dL_isWhole_105 : decode cL_isWhole 105 = .ok (.iload_n 3, 1) := by decide +kernel
theorem dL_isWhole_106 : decode cL_isWhole 106 = .ok (.aload_n 0, 1) := by decide +kernel
theorem dL_isWhole_107 : decode cL_isWhole 107 = .ok (.iload 12, 2) := by decide +kernel
theorem dL_isWhole_109 : decode cL_isWhole 109 = .ok (.bipush 6, 2) := by decide +kernel
theorem dL_isWhole_111 : decode cL_isWhole 111 = .ok (.invokevirtual 19, 3) := by decide +kernel
theorem dL_isWhole_114 : decode cL_isWhole 114 = .ok (.iadd, 1) := by decide +kernel
theorem dL_isWhole_115 : decode cL_isWhole 115 = .ok (.istore_n 3, 1) := by decide +kernel
theorem dL_isWhole_116 : decode cL_isWhole 116 = .ok (.iload 4, 2) := by decide +kernel
theorem dL_isWhole_118 : decode cL_isWhole 118 = .ok (.aload_n 0, 1) := by decide +kernel
theorem dL_isWhole_119 : decode cL_isWhole 119 = .ok (.iload 12, 2) := by decide +kernel
theorem dL_isWhole_121 : decode cL_isWhole 121 = .ok (.bipush 7, 2) := by decide +kernel
theorem dL_isWhole_123 : decode cL_isWhole 123 = .ok (.invokevirtual 19, 3) := by decide +kernel
theorem dL_isWhole_126 : decode cL_isWhole 126 = .ok (.iadd, 1) := by decide +kernel
theorem dL_isWhole_127 : decode cL_isWhole 127 = .ok (.istore 4, 2) := by decide +kernel
theorem dL_isWhole_129 : decode cL_isWhole 129 = .ok (.iload 5, 2) := by decide +kernel
theorem dL_isWhole_131 : decode cL_isWhole 131 = .ok (.aload_n 0, 1) := by decide +kernel
theorem dL_isWhole_132 : decode cL_isWhole 132 = .ok (.iload 12, 2) := by decide +kernel
theorem dL_isWhole_134 : decode cL_isWhole 134 = .ok (.invokevirtual 26, 3) := by decide +kernel
theorem dL_isWhole_137 : decode cL_isWhole 137 = .ok (.iadd, 1) := by decide +kernel
theorem dL_isWhole_138 : decode cL_isWhole 138 = .ok (.istore 5, 2) := by decide +kernel
theorem dL_isWhole_140 : decode cL_isWhole 140 = .ok (.iload 6, 2) := by decide +kernel
theorem dL_isWhole_142 : decode cL_isWhole 142 = .ok (.iconst 1, 1) := by decide +kernel
theorem dL_isWhole_143 : decode cL_isWhole 143 = .ok (.iload 13, 2) := by decide +kernel
theorem dL_isWhole_145 : decode cL_isWhole 145 = .ok (.ishl, 1) := by decide +kernel
theorem dL_isWhole_146 : decode cL_isWhole 146 = .ok (.ior, 1) := by decide +kernel
theorem dL_isWhole_147 : decode cL_isWhole 147 = .ok (.istore 6, 2) := by decide +kernel
theorem dL_isWhole_149 : decode cL_isWhole 149 = .ok (.iload 7, 2) := by decide +kernel
theorem dL_isWhole_151 : decode cL_isWhole 151 = .ok (.iload 10, 2) := by decide +kernel
theorem dL_isWhole_153 : decode cL_isWhole 153 = .ok (.ifCond .eq 17, 3) := by decide +kernel
theorem dL_isWhole_156 : decode cL_isWhole 156 = .ok (.iload 15, 2) := by decide +kernel
theorem dL_isWhole_158 : decode cL_isWhole 158 = .ok (.ldc 31, 2) := by decide +kernel
theorem dL_isWhole_160 : decode cL_isWhole 160 = .ok (.if_icmp .ne 10, 3) := by decide +kernel
theorem dL_isWhole_163 : decode cL_isWhole 163 = .ok (.iconst 1, 1) := by decide +kernel
theorem dL_isWhole_164 : decode cL_isWhole 164 = .ok (.iload 12, 2) := by decide +kernel
theorem dL_isWhole_166 : decode cL_isWhole 166 = .ok (.ishl, 1) := by decide +kernel
theorem dL_isWhole_167 : decode cL_isWhole 167 = .ok (.goto 4, 3) := by decide +kernel
theorem dL_isWhole_170 : decode cL_isWhole 170 = .ok (.iconst 0, 1) := by decide +kernel
theorem dL_isWhole_171 : decode cL_isWhole 171 = .ok (.ior, 1) := by decide +kernel
theorem dL_isWhole_172 : decode cL_isWhole 172 = .ok (.istore 7, 2) := by decide +kernel
theorem dL_isWhole_174 : decode cL_isWhole 174 = .ok (.iload 8, 2) := by decide +kernel
theorem dL_isWhole_176 : decode cL_isWhole 176 = .ok (.iload 10, 2) := by decide +kernel
theorem dL_isWhole_178 : decode cL_isWhole 178 = .ok (.ifCond .eq 14, 3) := by decide +kernel
theorem dL_isWhole_181 : decode cL_isWhole 181 = .ok (.iload 15, 2) := by decide +kernel
theorem dL_isWhole_183 : decode cL_isWhole 183 = .ok (.ldc 31, 2) := by decide +kernel
theorem dL_isWhole_185 : decode cL_isWhole 185 = .ok (.if_icmp .ne 7, 3) := by decide +kernel
theorem dL_isWhole_188 : decode cL_isWhole 188 = .ok (.iconst 1, 1) := by decide +kernel
theorem dL_isWhole_189 : decode cL_isWhole 189 = .ok (.goto 4, 3) := by decide +kernel
theorem dL_isWhole_192 : decode cL_isWhole 192 = .ok (.iconst 0, 1) := by decide +kernel
theorem dL_isWhole_193 : decode cL_isWhole 193 = .ok (.iadd, 1) := by decide +kernel
theorem dL_isWhole_194 : decode cL_isWhole 194 = .ok (.istore 8, 2) := by decide +kernel
theorem dL_isWhole_196 : decode cL_isWhole 196 = .ok (.iload 14, 2) := by decide +kernel
theorem dL_isWhole_198 : decode cL_isWhole 198 = .ok (.iload 9, 2) := by decide +kernel
theorem dL_isWhole_200 : decode cL_isWhole 200 = .ok (.if_icmp .le 8, 3) := by decide +kernel
theorem dL_isWhole_203 : decode cL_isWhole 203 = .ok (.iload 14, 2) := by decide +kernel
theorem dL_isWhole_205 : decode cL_isWhole 205 = .ok (.goto 5, 3) := by decide +kernel
theorem dL_isWhole_208 : decode cL_isWhole 208 = .ok (.iload 9, 2) := by decide +kernel
theorem dL_isWhole_210 : decode cL_isWhole 210 = .ok (.istore 9, 2) := by decide +kernel
theorem dL_isWhole_212 : decode cL_isWhole 212 = .ok (.iload 13, 2) := by decide +kernel
theorem dL_isWhole_214 : decode cL_isWhole 214 = .ok (.ifCond .lt 106, 3) := by decide +kernel
theorem dL_isWhole_217 : decode cL_isWhole 217 = .ok (.iload 13, 2) := by decide +kernel
theorem dL_isWhole_219 : decode cL_isWhole 219 = .ok (.iconst 5, 1) := by decide +kernel
theorem dL_isWhole_220 : decode cL_isWhole 220 = .ok (.if_icmp .ge 100, 3) := by decide +kernel
theorem dL_isWhole_223 : decode cL_isWhole 223 = .ok (.aload_n 0, 1) := by decide +kernel
theorem dL_isWhole_224 : decode cL_isWhole 224 = .ok (.iload 13, 2) := by decide +kernel
theorem dL_isWhole_226 : decode cL_isWhole 226 = .ok (.invokevirtual 23, 3) := by decide +kernel
theorem dL_isWhole_229 : decode cL_isWhole 229 = .ok (.iload 12, 2) := by decide +kernel
theorem dL_isWhole_231 : decode cL_isWhole 231 = .ok (.if_icmp .ne 89, 3) := by decide +kernel
theorem dL_isWhole_234 : decode cL_isWhole 234 = .ok (.aload_n 0, 1) := by decide +kernel
theorem dL_isWhole_235 : decode cL_isWhole 235 = .ok (.iload 12, 2) := by decide +kernel
theorem dL_isWhole_237 : decode cL_isWhole 237 = .ok (.iconst 0, 1) := by decide +kernel
theorem dL_isWhole_238 : decode cL_isWhole 238 = .ok (.invokevirtual 19, 3) := by decide +kernel
theorem dL_isWhole_241 : decode cL_isWhole 241 = .ok (.ifCond .lt 79, 3) := by decide +kernel
theorem dL_isWhole_244 : decode cL_isWhole 244 = .ok (.aload_n 0, 1) := by decide +kernel
theorem dL_isWhole_245 : decode cL_isWhole 245 = .ok (.iload 12, 2) := by decide +kernel
theorem dL_isWhole_247 : decode cL_isWhole 247 = .ok (.iconst 0, 1) := by decide +kernel
theorem dL_isWhole_248 : decode cL_isWhole 248 = .ok (.invokevirtual 19, 3) := by decide +kernel
theorem dL_isWhole_251 : decode cL_isWhole 251 = .ok (.sipush 9999, 3) := by decide +kernel
theorem dL_isWhole_254 : decode cL_isWhole 254 = .ok (.if_icmp .gt 66, 3) := by decide +kernel
theorem dL_isWhole_257 : decode cL_isWhole 257 = .ok (.iload 14, 2) := by decide +kernel
theorem dL_isWhole_259 : decode cL_isWhole 259 = .ok (.ldc 31, 2) := by decide +kernel
theorem dL_isWhole_261 : decode cL_isWhole 261 = .ok (.if_icmp .eq 32, 3) := by decide +kernel
theorem dL_isWhole_264 : decode cL_isWhole 264 = .ok (.iload 10, 2) := by decide +kernel
theorem dL_isWhole_266 : decode cL_isWhole 266 = .ok (.ifCond .eq 54, 3) := by decide +kernel
theorem dL_isWhole_269 : decode cL_isWhole 269 = .ok (.iload 14, 2) := by decide +kernel
theorem dL_isWhole_271 : decode cL_isWhole 271 = .ok (.ifCond .lt 49, 3) := by decide +kernel
theorem dL_isWhole_274 : decode cL_isWhole 274 = .ok (.iload 15, 2) := by decide +kernel
theorem dL_isWhole_276 : decode cL_isWhole 276 = .ok (.ldc 31, 2) := by decide +kernel
theorem dL_isWhole_278 : decode cL_isWhole 278 = .ok (.if_icmp .ne 15, 3) := by decide +kernel
theorem dL_isWhole_281 : decode cL_isWhole 281 = .ok (.iload 14, 2) := by decide +kernel
theorem dL_isWhole_283 : decode cL_isWhole 283 = .ok (.aload_n 0, 1) := by decide +kernel
theorem dL_isWhole_284 : decode cL_isWhole 284 = .ok (.iload 12, 2) := by decide +kernel
theorem dL_isWhole_286 : decode cL_isWhole 286 = .ok (.iconst 0, 1) := by decide +kernel
theorem dL_isWhole_287 : decode cL_isWhole 287 = .ok (.invokevirtual 19, 3) := by decide +kernel
theorem dL_isWhole_290 : decode cL_isWhole 290 = .ok (.if_icmp .gt 30, 3) := by decide +kernel
theorem dL_isWhole_293 : decode cL_isWhole 293 = .ok (.iload 15, 2) := by decide +kernel
theorem dL_isWhole_295 : decode cL_isWhole 295 = .ok (.ldc 31, 2) := by decide +kernel
theorem dL_isWhole_297 : decode cL_isWhole 297 = .ok (.if_icmp .eq 19, 3) := by decide +kernel
theorem dL_isWhole_300 : decode cL_isWhole 300 = .ok (.iload 10, 2) := by decide +kernel
theorem dL_isWhole_302 : decode cL_isWhole 302 = .ok (.ifCond .eq 18, 3) := by decide +kernel
theorem dL_isWhole_305 : decode cL_isWhole 305 = .ok (.iload 15, 2) := by decide +kernel
theorem dL_isWhole_307 : decode cL_isWhole 307 = .ok (.ifCond .le 13, 3) := by decide +kernel
theorem dL_isWhole_310 : decode cL_isWhole 310 = .ok (.iload 15, 2) := by decide +kernel
theorem dL_isWhole_312 : decode cL_isWhole 312 = .ok (.iconst 5, 1) := by decide +kernel
theorem dL_isWhole_313 : decode cL_isWhole 313 = .ok (.if_icmp .ge 7, 3) := by decide +kernel
theorem dL_isWhole_316 : decode cL_isWhole 316 = .ok (.iconst 1, 1) := by decide +kernel
theorem dL_isWhole_317 : decode cL_isWhole 317 = .ok (.goto 4, 3) := by decide +kernel
theorem dL_isWhole_320 : decode cL_isWhole 320 = .ok (.iconst 0, 1) := by decide +kernel
theorem dL_isWhole_321 : decode cL_isWhole 321 = .ok (.istore 11, 2) := by decide +kernel
theorem dL_isWhole_323 : decode cL_isWhole 323 = .ok (.iinc 12 1, 3) := by decide +kernel
theorem dL_isWhole_326 : decode cL_isWhole 326 = .ok (.goto (-279), 3) := by decide +kernel
theorem dL_isWhole_329 : decode cL_isWhole 329 = .ok (.iload 11, 2) := by decide +kernel
theorem dL_isWhole_331 : decode cL_isWhole 331 = .ok (.ifCond .eq 99, 3) := by decide +kernel
theorem dL_isWhole_334 : decode cL_isWhole 334 = .ok (.iload 6, 2) := by decide +kernel
theorem dL_isWhole_336 : decode cL_isWhole 336 = .ok (.bipush 31, 2) := by decide +kernel
theorem dL_isWhole_338 : decode cL_isWhole 338 = .ok (.if_icmp .ne 92, 3) := by decide +kernel
theorem dL_isWhole_341 : decode cL_isWhole 341 = .ok (.iload_n 1, 1) := by decide +kernel
theorem dL_isWhole_342 : decode cL_isWhole 342 = .ok (.aload_n 0, 1) := by decide +kernel
theorem dL_isWhole_343 : decode cL_isWhole 343 = .ok (.bipush 10, 2) := by decide +kernel
theorem dL_isWhole_345 : decode cL_isWhole 345 = .ok (.invokevirtual 13, 3) := by decide +kernel
theorem dL_isWhole_348 : decode cL_isWhole 348 = .ok (.if_icmp .ne 82, 3) := by decide +kernel
theorem dL_isWhole_351 : decode cL_isWhole 351 = .ok (.iload_n 2, 1) := by decide +kernel
theorem dL_isWhole_352 : decode cL_isWhole 352 = .ok (.aload_n 0, 1) := by decide +kernel
theorem dL_isWhole_353 : decode cL_isWhole 353 = .ok (.bipush 11, 2) := by decide +kernel
theorem dL_isWhole_355 : decode cL_isWhole 355 = .ok (.invokevirtual 13, 3) := by decide +kernel
theorem dL_isWhole_358 : decode cL_isWhole 358 = .ok (.if_icmp .ne 72, 3) := by decide +kernel
theorem dL_isWhole_361 : decode cL_isWhole 361 = .ok (.iload_n 3, 1) := by decide +kernel
theorem dL_isWhole_362 : decode cL_isWhole 362 = .ok (.aload_n 0, 1) := by decide +kernel
theorem dL_isWhole_363 : decode cL_isWhole 363 = .ok (.bipush 12, 2) := by decide +kernel
theorem dL_isWhole_365 : decode cL_isWhole 365 = .ok (.invokevirtual 13, 3) := by decide +kernel
theorem dL_isWhole_368 : decode cL_isWhole 368 = .ok (.if_icmp .ne 62, 3) := by decide +kernel
theorem dL_isWhole_371 : decode cL_isWhole 371 = .ok (.iload 4, 2) := by decide +kernel
theorem dL_isWhole_373 : decode cL_isWhole 373 = .ok (.aload_n 0, 1) := by decide +kernel
theorem dL_isWhole_374 : decode cL_isWhole 374 = .ok (.bipush 9, 2) := by decide +kernel
theorem dL_isWhole_376 : decode cL_isWhole 376 = .ok (.invokevirtual 13, 3) := by decide +kernel
theorem dL_isWhole_379 : decode cL_isWhole 379 = .ok (.if_icmp .ne 51, 3) := by decide +kernel
theorem dL_isWhole_382 : decode cL_isWhole 382 = .ok (.iload 5, 2) := by decide +kernel
theorem dL_isWhole_384 : decode cL_isWhole 384 = .ok (.aload_n 0, 1) := by decide +kernel
theorem dL_isWhole_385 : decode cL_isWhole 385 = .ok (.bipush 13, 2) := by decide +kernel
theorem dL_isWhole_387 : decode cL_isWhole 387 = .ok (.invokevirtual 13, 3) := by decide +kernel
theorem dL_isWhole_390 : decode cL_isWhole 390 = .ok (.if_icmp .ne 40, 3) := by decide +kernel
theorem dL_isWhole_393 : decode cL_isWhole 393 = .ok (.iload 7, 2) := by decide +kernel
theorem dL_isWhole_395 : decode cL_isWhole 395 = .ok (.aload_n 0, 1) := by decide +kernel
theorem dL_isWhole_396 : decode cL_isWhole 396 = .ok (.bipush 8, 2) := by decide +kernel
theorem dL_isWhole_398 : decode cL_isWhole 398 = .ok (.invokevirtual 13, 3) := by decide +kernel
theorem dL_isWhole_401 : decode cL_isWhole 401 = .ok (.if_icmp .ne 29, 3) := by decide +kernel
theorem dL_isWhole_404 : decode cL_isWhole 404 = .ok (.iload 9, 2) := by decide +kernel
theorem dL_isWhole_406 : decode cL_isWhole 406 = .ok (.aload_n 0, 1) := by decide +kernel
theorem dL_isWhole_407 : decode cL_isWhole 407 = .ok (.bipush 6, 2) := by decide +kernel
theorem dL_isWhole_409 : decode cL_isWhole 409 = .ok (.invokevirtual 13, 3) := by decide +kernel
theorem dL_isWhole_412 : decode cL_isWhole 412 = .ok (.if_icmp .ne 18, 3) := by decide +kernel
theorem dL_isWhole_415 : decode cL_isWhole 415 = .ok (.iload 10, 2) := by decide +kernel
theorem dL_isWhole_417 : decode cL_isWhole 417 = .ok (.ifCond .eq 9, 3) := by decide +kernel
theorem dL_isWhole_420 : decode cL_isWhole 420 = .ok (.iload 8, 2) := by decide +kernel
theorem dL_isWhole_422 : decode cL_isWhole 422 = .ok (.iconst 1, 1) := by decide +kernel
theorem dL_isWhole_423 : decode cL_isWhole 423 = .ok (.if_icmp .le 7, 3) := by decide +kernel
theorem dL_isWhole_426 : decode cL_isWhole 426 = .ok (.iconst 1, 1) := by decide +kernel
theorem dL_isWhole_427 : decode cL_isWhole 427 = .ok (.goto 4, 3) := by decide +kernel
theorem dL_isWhole_430 : decode cL_isWhole 430 = .ok (.iconst 0, 1) := by decide +kernel
theorem dL_isWhole_431 : decode cL_isWhole 431 = .ok (.istore 11, 2) := by decide +kernel
theorem dL_isWhole_433 : decode cL_isWhole 433 = .ok (.aload_n 0, 1) := by decide +kernel
theorem dL_isWhole_434 : decode cL_isWhole 434 = .ok (.iconst 5, 1) := by decide +kernel
theorem dL_isWhole_435 : decode cL_isWhole 435 = .ok (.invokevirtual 13, 3) := by decide +kernel
theorem dL_isWhole_438 : decode cL_isWhole 438 = .ok (.istore 12, 2) := by decide +kernel
theorem dL_isWhole_440 : decode cL_isWhole 440 = .ok (.iload 11, 2) := by decide +kernel
theorem dL_isWhole_442 : decode cL_isWhole 442 = .ok (.ifCond .eq 103, 3) := by decide +kernel
theorem dL_isWhole_445 : decode cL_isWhole 445 = .ok (.iload 10, 2) := by decide +kernel
theorem dL_isWhole_447 : decode cL_isWhole 447 = .ok (.ifCond .eq 67, 3) := by decide +kernel
theorem dL_isWhole_450 : decode cL_isWhole 450 = .ok (.iload 12, 2) := by decide +kernel
theorem dL_isWhole_452 : decode cL_isWhole 452 = .ok (.ifCond .lt 93, 3) := by decide +kernel
theorem dL_isWhole_455 : decode cL_isWhole 455 = .ok (.iload 12, 2) := by decide +kernel
theorem dL_isWhole_457 : decode cL_isWhole 457 = .ok (.iconst 5, 1) := by decide +kernel
theorem dL_isWhole_458 : decode cL_isWhole 458 = .ok (.if_icmp .ge 87, 3) := by decide +kernel
theorem dL_isWhole_461 : decode cL_isWhole 461 = .ok (.iload 7, 2) := by decide +kernel
theorem dL_isWhole_463 : decode cL_isWhole 463 = .ok (.iload 12, 2) := by decide +kernel
theorem dL_isWhole_465 : decode cL_isWhole 465 = .ok (.ishr, 1) := by decide +kernel
theorem dL_isWhole_466 : decode cL_isWhole 466 = .ok (.iconst 1, 1) := by decide +kernel
theorem dL_isWhole_467 : decode cL_isWhole 467 = .ok (.iand, 1) := by decide +kernel
theorem dL_isWhole_468 : decode cL_isWhole 468 = .ok (.iconst 1, 1) := by decide +kernel
theorem dL_isWhole_469 : decode cL_isWhole 469 = .ok (.if_icmp .ne 76, 3) := by decide +kernel
theorem dL_isWhole_472 : decode cL_isWhole 472 = .ok (.aload_n 0, 1) := by decide +kernel
theorem dL_isWhole_473 : decode cL_isWhole 473 = .ok (.bipush 7, 2) := by decide +kernel
theorem dL_isWhole_475 : decode cL_isWhole 475 = .ok (.invokevirtual 13, 3) := by decide +kernel
theorem dL_isWhole_478 : decode cL_isWhole 478 = .ok (.iload 9, 2) := by decide +kernel
theorem dL_isWhole_480 : decode cL_isWhole 480 = .ok (.ldc 31, 2) := by decide +kernel
theorem dL_isWhole_482 : decode cL_isWhole 482 = .ok (.if_icmp .ne 11, 3) := by decide +kernel
theorem dL_isWhole_485 : decode cL_isWhole 485 = .ok (.aload_n 0, 1) := by decide +kernel
theorem dL_isWhole_486 : decode cL_isWhole 486 = .ok (.iconst 1, 1) := by decide +kernel
theorem dL_isWhole_487 : decode cL_isWhole 487 = .ok (.invokevirtual 13, 3) := by decide +kernel
theorem dL_isWhole_490 : decode cL_isWhole 490 = .ok (.goto 11, 3) := by decide +kernel
theorem dL_isWhole_493 : decode cL_isWhole 493 = .ok (.iload 9, 2) := by decide +kernel
theorem dL_isWhole_495 : decode cL_isWhole 495 = .ok (.aload_n 0, 1) := by decide +kernel
theorem dL_isWhole_496 : decode cL_isWhole 496 = .ok (.iconst 0, 1) := by decide +kernel
theorem dL_isWhole_497 : decode cL_isWhole 497 = .ok (.invokevirtual 13, 3) := by decide +kernel
theorem dL_isWhole_500 : decode cL_isWhole 500 = .ok (.iadd, 1) := by decide +kernel
theorem dL_isWhole_501 : decode cL_isWhole 501 = .ok (.if_icmp .ne 44, 3) := by decide +kernel
theorem dL_isWhole_504 : decode cL_isWhole 504 = .ok (.aload_n 0, 1) := by decide +kernel
theorem dL_isWhole_505 : decode cL_isWhole 505 = .ok (.invokevirtual 32, 3) := by decide +kernel
theorem dL_isWhole_508 : decode cL_isWhole 508 = .ok (.ifCond .le 37, 3) := by decide +kernel
theorem dL_isWhole_511 : decode cL_isWhole 511 = .ok (.goto 30, 3) := by decide +kernel
theorem dL_isWhole_514 : decode cL_isWhole 514 = .ok (.iload 12, 2) := by decide +kernel
theorem dL_isWhole_516 : decode cL_isWhole 516 = .ok (.ldc 31, 2) := by decide +kernel
theorem dL_isWhole_518 : decode cL_isWhole 518 = .ok (.if_icmp .ne 27, 3) := by decide +kernel
theorem dL_isWhole_521 : decode cL_isWhole 521 = .ok (.aload_n 0, 1) := by decide +kernel
theorem dL_isWhole_522 : decode cL_isWhole 522 = .ok (.bipush 7, 2) := by decide +kernel
theorem dL_isWhole_524 : decode cL_isWhole 524 = .ok (.invokevirtual 13, 3) := by decide +kernel
theorem dL_isWhole_527 : decode cL_isWhole 527 = .ok (.ldc 31, 2) := by decide +kernel
theorem dL_isWhole_529 : decode cL_isWhole 529 = .ok (.if_icmp .ne 16, 3) := by decide +kernel
theorem dL_isWhole_532 : decode cL_isWhole 532 = .ok (.aload_n 0, 1) := by decide +kernel
theorem dL_isWhole_533 : decode cL_isWhole 533 = .ok (.invokevirtual 32, 3) := by decide +kernel
theorem dL_isWhole_536 : decode cL_isWhole 536 = .ok (.ldc 36, 2) := by decide +kernel
theorem dL_isWhole_538 : decode cL_isWhole 538 = .ok (.if_icmp .ne 7, 3) := by decide +kernel
theorem dL_isWhole_541 : decode cL_isWhole 541 = .ok (.iconst 1, 1) := by decide +kernel
theorem dL_isWhole_542 : decode cL_isWhole 542 = .ok (.goto 4, 3) := by decide +kernel
theorem dL_isWhole_545 : decode cL_isWhole 545 = .ok (.iconst 0, 1) := by decide +kernel
theorem dL_isWhole_546 : decode cL_isWhole 546 = .ok (.ireturn, 1) := by decide +kernel
