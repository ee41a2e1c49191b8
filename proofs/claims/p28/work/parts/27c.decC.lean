set_option maxRecDepth 20000 in
theorem ggL_refuses_L_seen : GoodIn wsL_refuses wsL_seen := goodIn_q _ [4, 11, 30, 36, 43, 47, 51, 60, 64, 68, 73, 76] [5, 6, 7, 8, 9, 10, 12, 13, 14, 15, 16, 17, 18, 19, 20, 21, 22, 23, 24, 25, 26, 27, 28, 29, 31, 32, 33, 34, 35, 37, 38, 39, 40, 41, 42, 44, 45, 46, 48, 49, 50, 52, 53, 54, 55, 56, 57, 58, 59, 61, 62, 63, 65, 66, 67, 69, 70, 71, 72, 74, 75, 292, 293, 294, 295, 296, 297, 298, 299, 300, 301, 302, 303, 304, 305, 306, 307, 308, 309, 310, 311, 312, 313, 314] rfl (by decide +kernel) (by decide +kernel)
set_option maxRecDepth 20000 in
theorem gL_refuses_L_seen : GoodIn wsL_refuses (va_wsS RL 91 yL_seen wsL_seen) := goodIn_app (goodIn_of _ (by decide +kernel)) ggL_refuses_L_seen
set_option maxRecDepth 20000 in
theorem ggL_refuses_X3_count : GoodIn wsL_refuses wsX3_count := goodIn_r _ [11, 12, 13, 14, 15, 16, 17, 18, 19, 20, 21, 22, 23, 24, 25, 26, 27, 28, 29, 30, 31, 32, 33, 34, 35, 36, 37, 38, 39, 40, 41, 42, 43, 44, 45, 46, 10, 47, 292, 293, 294, 295, 296, 297, 298, 299, 300, 301, 302, 303, 304, 305, 306, 307, 308, 309, 310, 311, 312, 313, 314] (by decide +kernel) (by decide +kernel)
set_option maxRecDepth 20000 in
theorem gL_refuses_X3_count : GoodIn wsL_refuses (wsV RL 13 RX3 yX3_count wsX3_count) := goodIn_app (goodIn_of _ (by decide +kernel)) ggL_refuses_X3_count
set_option maxRecDepth 20000 in
theorem ggL_refuses_L_refusesAny : GoodIn wsL_refuses wsL_refusesAny := goodIn_q _ [79, 11, 30, 36, 43, 47, 87, 94, 103, 107, 109, 112, 125, 133, 60, 138, 141, 145, 149, 76, 153, 157, 162, 166, 68, 171, 175, 51, 179, 183, 188, 195, 199, 204, 208, 212, 64, 73, 219, 224, 229, 235, 240, 244, 248, 254, 258, 262, 268, 274, 278, 281, 287, 291] [80, 81, 82, 83, 7, 8, 9, 10, 12, 13, 14, 15, 16, 17, 18, 19, 20, 21, 22, 23, 24, 25, 26, 27, 28, 29, 31, 32, 33, 34, 35, 37, 38, 39, 40, 41, 42, 44, 45, 46, 84, 85, 86, 88, 89, 90, 91, 92, 93, 95, 96, 97, 98, 99, 100, 101, 102, 104, 105, 106, 108, 110, 111, 113, 114, 115, 116, 69, 117, 118, 119, 120, 121, 122, 123, 124, 126, 127, 128, 129, 130, 131, 132, 52, 134, 58, 59, 135, 136, 137, 139, 140, 142, 143, 144, 53, 146, 147, 148, 74, 75, 150, 151, 152, 154, 155, 156, 158, 159, 160, 161, 163, 164, 165, 167, 66, 67, 168, 169, 170, 172, 173, 174, 48, 49, 50, 54, 55, 56, 57, 176, 177, 178, 180, 181, 182, 184, 185, 186, 187, 189, 190, 191, 192, 193, 194, 196, 197, 198, 200, 201, 202, 203, 205, 206, 207, 209, 210, 211, 213, 214, 215, 61, 62, 63, 65, 70, 71, 72, 216, 217, 218, 220, 221, 222, 223, 225, 226, 227, 228, 230, 231, 232, 233, 234, 236, 237, 238, 239, 241, 242, 243, 245, 246, 247, 249, 250, 251, 252, 253, 255, 256, 257, 259, 260, 261, 263, 264, 265, 266, 267, 269, 270, 271, 272, 273, 275, 276, 277, 279, 280, 282, 283, 284, 285, 286, 288, 289, 290, 292, 293, 294, 295, 296, 297, 298, 299, 300, 301, 302, 303, 304, 305, 306, 307, 308, 309, 310, 311, 312, 313, 314] rfl (by decide +kernel) (by decide +kernel)
set_option maxRecDepth 20000 in
theorem gL_refuses_L_refusesAny : GoodIn wsL_refuses (va_wsS RL 95 yL_refusesAny wsL_refusesAny) := goodIn_app (goodIn_of _ (by decide +kernel)) ggL_refuses_L_refusesAny
theorem dL_refuses_0 : decode cL_refuses 0 = .ok (.aload_n 0, 1) := by decide +kernel
theorem dL_refuses_1 : decode cL_refuses 1 = .ok (.invokestatic 91, 3) := by decide +kernel
theorem dL_refuses_4 : decode cL_refuses 4 = .ok (.lstore_n 2, 1) := by decide +kernel
theorem dL_refuses_5 : decode cL_refuses 5 = .ok (.aload_n 0, 1) := by decide +kernel
theorem dL_refuses_6 : decode cL_refuses 6 = .ok (.bipush 15, 2) := by decide +kernel
theorem dL_refuses_8 : decode cL_refuses 8 = .ok (.invokevirtual 13, 3) := by decide +kernel
theorem dL_refuses_11 : decode cL_refuses 11 = .ok (.istore 4, 2) := by decide +kernel
theorem dL_refuses_13 : decode cL_refuses 13 = .ok (.aload_n 0, 1) := by decide +kernel
theorem dL_refuses_14 : decode cL_refuses 14 = .ok (.iload_n 1, 1) := by decide +kernel
theorem dL_refuses_15 : decode cL_refuses 15 = .ok (.invokestatic 95, 3) := by decide +kernel
theorem dL_refuses_18 : decode cL_refuses 18 = .ok (.ifCond .eq 27, 3) := by decide +kernel
theorem dL_refuses_21 : decode cL_refuses 21 = .ok (.aload_n 0, 1) := by decide +kernel
theorem dL_refuses_22 : decode cL_refuses 22 = .ok (.invokestatic 91, 3) := by decide +kernel
theorem dL_refuses_25 : decode cL_refuses 25 = .ok (.lload_n 2, 1) := by decide +kernel
theorem dL_refuses_26 : decode cL_refuses 26 = .ok (.lcmp, 1) := by decide +kernel
theorem dL_refuses_27 : decode cL_refuses 27 = .ok (.ifCond .ne 18, 3) := by decide +kernel
theorem dL_refuses_30 : decode cL_refuses 30 = .ok (.aload_n 0, 1) := by decide +kernel
theorem dL_refuses_31 : decode cL_refuses 31 = .ok (.bipush 15, 2) := by decide +kernel
theorem dL_refuses_33 : decode cL_refuses 33 = .ok (.invokevirtual 13, 3) := by decide +kernel
theorem dL_refuses_36 : decode cL_refuses 36 = .ok (.iload 4, 2) := by decide +kernel
theorem dL_refuses_38 : decode cL_refuses 38 = .ok (.if_icmp .ne 7, 3) := by decide +kernel
theorem dL_refuses_41 : decode cL_refuses 41 = .ok (.iconst 1, 1) := by decide +kernel
theorem dL_refuses_42 : decode cL_refuses 42 = .ok (.goto 4, 3) := by decide +kernel
theorem dL_refuses_45 : decode cL_refuses 45 = .ok (.iconst 0, 1) := by decide +kernel
theorem dL_refuses_46 : decode cL_refuses 46 = .ok (.ireturn, 1) := by decide +kernel
theorem dL_size_0 : decode cL_size 0 = .ok (.iconst 0, 1) := by decide +kernel
theorem dL_size_1 : decode cL_size 1 = .ok (.istore_n 1, 1) := by decide +kernel
theorem dL_size_2 : decode cL_size 2 = .ok (.iconst 0, 1) := by decide +kernel
theorem dL_size_3 : decode cL_size 3 = .ok (.istore_n 2, 1) := by decide +kernel
theorem dL_size_4 : decode cL_size 4 = .ok (.iload_n 2, 1) := by decide +kernel
theorem dL_size_5 : decode cL_size 5 = .ok (.iconst 5, 1) := by decide +kernel
theorem dL_size_6 : decode cL_size 6 = .ok (.if_icmp .ge 17, 3) := by decide +kernel
theorem dL_size_9 : decode cL_size 9 = .ok (.iload_n 1, 1) := by decide +kernel
theorem dL_size_10 : decode cL_size 10 = .ok (.iload_n 0, 1) := by decide +kernel
theorem dL_size_11 : decode cL_size 11 = .ok (.iload_n 2, 1) := by decide +kernel
theorem dL_size_12 : decode cL_size 12 = .ok (.ishr, 1) := by decide +kernel
theorem dL_size_13 : decode cL_size 13 = .ok (.iconst 1, 1) := by decide +kernel
theorem dL_size_14 : decode cL_size 14 = .ok (.iand, 1) := by decide +kernel
theorem dL_size_15 : decode cL_size 15 = .ok (.iadd, 1) := by decide +kernel
theorem dL_size_16 : decode cL_size 16 = .ok (.istore_n 1, 1) := by decide +kernel
theorem dL_size_17 : decode cL_size 17 = .ok (.iinc 2 1, 3) := by decide +kernel
theorem dL_size_20 : decode cL_size 20 = .ok (.goto (-16), 3) := by decide +kernel
theorem dL_size_23 : decode cL_size 23 = .ok (.iload_n 1, 1) := by decide +kernel
theorem dL_size_24 : decode cL_size 24 = .ok (.ireturn, 1) := by decide +kernel
set_option maxRecDepth 20000 in
theorem ggL_bid_X3_count : GoodIn wsL_bid wsX3_count := goodIn_r _ [6, 7, 8, 9, 10, 11, 12, 13, 14, 15, 16, 17, 18, 19, 20, 21, 22, 23, 24, 25, 26, 27, 28, 29, 30, 31, 32, 33, 34, 35, 36, 37, 38, 39, 40, 41, 5, 42, 119, 120, 121, 122, 123, 124, 125, 126, 127, 128, 129, 130, 131, 132, 133, 134, 135, 136, 137, 138, 139, 140, 141] (by decide +kernel) (by decide +kernel)
set_option maxRecDepth 20000 in
theorem gL_bid_X3_count : GoodIn wsL_bid (wsV RL 13 RX3 yX3_count wsX3_count) := goodIn_app (goodIn_of _ (by decide +kernel)) ggL_bid_X3_count
set_option maxRecDepth 20000 in
theorem ggL_bid_X3_player : GoodIn wsL_bid wsX3_player := goodIn_r _ [46, 47, 7, 12, 48, 49, 50, 51, 13, 14, 52, 20, 53, 54, 5, 55, 119, 120, 121, 122, 123, 124, 125, 126, 127, 128, 129, 130, 131, 132, 133, 134, 135, 136] (by decide +kernel) (by decide +kernel)
set_option maxRecDepth 20000 in
theorem gL_bid_X3_player : GoodIn wsL_bid (wsV RL 19 RX3 yX3_player wsX3_player) := goodIn_app (goodIn_of _ (by decide +kernel)) ggL_bid_X3_player
set_option maxRecDepth 20000 in
theorem ggL_bid_X3_bid : GoodIn wsL_bid wsX3_bid := goodIn_r _ [59, 20, 7, 60, 18, 61, 62, 63, 24, 64, 32, 65, 66, 54, 5, 55, 67, 29, 30, 31, 26, 33, 34, 22, 23, 25, 27, 68, 69, 70, 71, 72, 73, 74, 75, 76, 77, 78, 79, 80, 81, 82, 83, 84, 85, 86, 87, 88, 89, 90, 91, 92, 93, 94, 39, 95, 96, 97, 98, 99, 100, 101, 102, 103, 104, 105, 106, 107, 108, 109, 110, 111, 112, 113, 114, 115, 116, 117, 118, 119, 120, 121, 122, 123, 124, 125, 126, 127, 128, 129, 130, 131, 132, 133, 134, 135, 136, 139, 140, 141] (by decide +kernel) (by decide +kernel)
set_option maxRecDepth 20000 in
theorem gL_bid_X3_bid : GoodIn wsL_bid (wsV RL 51 RX3 yX3_bid wsX3_bid) := goodIn_app (goodIn_of _ (by decide +kernel)) ggL_bid_X3_bid
theorem dL_bid_0 : decode cL_bid 0 = .ok (.aload_n 0, 1) := by decide +kernel
theorem dL_bid_1 : decode cL_bid 1 = .ok (.iconst 5, 1) := by decide +kernel
theorem dL_bid_2 : decode cL_bid 2 = .ok (.invokevirtual 13, 3) := by decide +kernel
theorem dL_bid_5 : decode cL_bid 5 = .ok (.istore_n 2, 1) := by decide +kernel
theorem dL_bid_6 : decode cL_bid 6 = .ok (.aload_n 0, 1) := by decide +kernel
theorem dL_bid_7 : decode cL_bid 7 = .ok (.bipush 7, 2) := by decide +kernel
theorem dL_bid_9 : decode cL_bid 9 = .ok (.invokevirtual 13, 3) := by decide +kernel
theorem dL_bid_12 : decode cL_bid 12 = .ok (.istore_n 3, 1) := by decide +kernel
theorem dL_bid_13 : decode cL_bid 13 = .ok (.aload_n 0, 1) := by decide +kernel
theorem dL_bid_14 : decode cL_bid 14 = .ok (.bipush 8, 2) := by decide +kernel
theorem dL_bid_16 : decode cL_bid 16 = .ok (.invokevirtual 13, 3) := by decide +kernel
theorem dL_bid_19 : decode cL_bid 19 = .ok (.istore 4, 2) := by decide +kernel
theorem dL_bid_21 : decode cL_bid 21 = .ok (.iload_n 2, 1) := by decide +kernel
theorem dL_bid_22 : decode cL_bid 22 = .ok (.ifCond .lt 22, 3) := by decide +kernel
theorem dL_bid_25 : decode cL_bid 25 = .ok (.iload_n 1, 1) := by decide +kernel
theorem dL_bid_26 : decode cL_bid 26 = .ok (.iload_n 3, 1) := by decide +kernel
theorem dL_bid_27 : decode cL_bid 27 = .ok (.if_icmp .lt 17, 3) := by decide +kernel
theorem dL_bid_30 : decode cL_bid 30 = .ok (.iload_n 1, 1) := by decide +kernel
theorem dL_bid_31 : decode cL_bid 31 = .ok (.aload_n 0, 1) := by decide +kernel
theorem dL_bid_32 : decode cL_bid 32 = .ok (.iload_n 2, 1) := by decide +kernel
theorem dL_bid_33 : decode cL_bid 33 = .ok (.iconst 0, 1) := by decide +kernel
theorem dL_bid_34 : decode cL_bid 34 = .ok (.invokevirtual 19, 3) := by decide +kernel
theorem dL_bid_37 : decode cL_bid 37 = .ok (.if_icmp .gt 7, 3) := by decide +kernel
theorem dL_bid_40 : decode cL_bid 40 = .ok (.iconst 1, 1) := by decide +kernel
theorem dL_bid_41 : decode cL_bid 41 = .ok (.goto 4, 3) := by decide +kernel
theorem dL_bid_44 : decode cL_bid 44 = .ok (.iconst 0, 1) := by decide +kernel
theorem dL_bid_45 : decode cL_bid 45 = .ok (.istore 5, 2) := by decide +kernel
theorem dL_bid_47 : decode cL_bid 47 = .ok (.aload_n 0, 1) := by decide +kernel
theorem dL_bid_48 : decode cL_bid 48 = .ok (.bipush 10, 2) := by decide +kernel
theorem dL_bid_50 : decode cL_bid 50 = .ok (.invokevirtual 13, 3) := by decide +kernel
theorem dL_bid_53 : decode cL_bid 53 = .ok (.istore 6, 2) := by decide +kernel
theorem dL_bid_55 : decode cL_bid 55 = .ok (.aload_n 0, 1) := by decide +kernel
theorem dL_bid_56 : decode cL_bid 56 = .ok (.iload_n 1, 1) := by decide +kernel
theorem dL_bid_57 : decode cL_bid 57 = .ok (.invokevirtual 51, 3) := by decide +kernel
theorem dL_bid_60 : decode cL_bid 60 = .ok (.istore 7, 2) := by decide +kernel
theorem dL_bid_62 : decode cL_bid 62 = .ok (.iload 5, 2) := by decide +kernel
theorem dL_bid_64 : decode cL_bid 64 = .ok (.ifCond .ne 17, 3) := by decide +kernel
theorem dL_bid_67 : decode cL_bid 67 = .ok (.iload 7, 2) := by decide +kernel
theorem dL_bid_69 : decode cL_bid 69 = .ok (.ldc 36, 2) := by decide +kernel
theorem dL_bid_71 : decode cL_bid 71 = .ok (.if_icmp .ne 7, 3) := by decide +kernel
theorem dL_bid_74 : decode cL_bid 74 = .ok (.iconst 0, 1) := by decide +kernel
theorem dL_bid_75 : decode cL_bid 75 = .ok (.goto 5, 3) := by decide +kernel
theorem dL_bid_78 : decode cL_bid 78 = .ok (.bipush (-9), 2) := by decide +kernel
theorem dL_bid_80 : decode cL_bid 80 = .ok (.ireturn, 1) := by decide +kernel
theorem dL_bid_81 : decode cL_bid 81 = .ok (.iload 7, 2) := by decide +kernel
theorem dL_bid_83 : decode cL_bid 83 = .ok (.ifCond .lt 66, 3) := by decide +kernel
theorem dL_bid_86 : decode cL_bid 86 = .ok (.iload 7, 2) := by decide +kernel
theorem dL_bid_88 : decode cL_bid 88 = .ok (.iload_n 2, 1) := by decide +kernel
theorem dL_bid_89 : decode cL_bid 89 = .ok (.if_icmp .eq 60, 3) := by decide +kernel
theorem dL_bid_92 : decode cL_bid 92 = .ok (.iload 4, 2) := by decide +kernel
theorem dL_bid_94 : decode cL_bid 94 = .ok (.iload 7, 2) := by decide +kernel
theorem dL_bid_96 : decode cL_bid 96 = .ok (.ishr, 1) := by decide +kernel
theorem dL_bid_97 : decode cL_bid 97 = .ok (.iconst 1, 1) := by decide +kernel
theorem dL_bid_98 : decode cL_bid 98 = .ok (.iand, 1) := by decide +kernel
theorem dL_bid_99 : decode cL_bid 99 = .ok (.iconst 1, 1) := by decide +kernel
theorem dL_bid_100 : decode cL_bid 100 = .ok (.if_icmp .ne 49, 3) := by decide +kernel
theorem dL_bid_103 : decode cL_bid 103 = .ok (.aload_n 0, 1) := by decide +kernel
theorem dL_bid_104 : decode cL_bid 104 = .ok (.iload_n 2, 1) := by decide +kernel
theorem dL_bid_105 : decode cL_bid 105 = .ok (.iconst 3, 1) := by decide +kernel
theorem dL_bid_106 : decode cL_bid 106 = .ok (.invokevirtual 19, 3) := by decide +kernel
theorem dL_bid_109 : decode cL_bid 109 = .ok (.iload_n 1, 1) := by decide +kernel
theorem dL_bid_110 : decode cL_bid 110 = .ok (.if_icmp .ne 39, 3) := by decide +kernel
theorem dL_bid_113 : decode cL_bid 113 = .ok (.aload_n 0, 1) := by decide +kernel
theorem dL_bid_114 : decode cL_bid 114 = .ok (.bipush 6, 2) := by decide +kernel
theorem dL_bid_116 : decode cL_bid 116 = .ok (.invokevirtual 13, 3) := by decide +kernel
theorem dL_bid_119 : decode cL_bid 119 = .ok (.iload_n 1, 1) := by decide +kernel
theorem dL_bid_120 : decode cL_bid 120 = .ok (.if_icmp .ne 29, 3) := by decide +kernel
theorem dL_bid_123 : decode cL_bid 123 = .ok (.aload_n 0, 1) := by decide +kernel
theorem dL_bid_124 : decode cL_bid 124 = .ok (.bipush 8, 2) := by decide +kernel
theorem dL_bid_126 : decode cL_bid 126 = .ok (.invokevirtual 13, 3) := by decide +kernel
theorem dL_bid_129 : decode cL_bid 129 = .ok (.iload 4, 2) := by decide +kernel
theorem dL_bid_131 : decode cL_bid 131 = .ok (.if_icmp .ne 18, 3) := by decide +kernel
theorem dL_bid_134 : decode cL_bid 134 = .ok (.aload_n 0, 1) := by decide +kernel
theorem dL_bid_135 : decode cL_bid 135 = .ok (.bipush 10, 2) := by decide +kernel
theorem dL_bid_137 : decode cL_bid 137 = .ok (.invokevirtual 13, 3) := by decide +kernel
theorem dL_bid_140 : decode cL_bid 140 = .ok (.iload 6, 2) := by decide +kernel
theorem dL_bid_142 : decode cL_bid 142 = .ok (.if_icmp .ne 7, 3) := by decide +kernel
theorem dL_bid_145 : decode cL_bid 145 = .ok (.iconst 1, 1) := by decide +kernel
theorem dL_bid_146 : decode cL_bid 146 = .ok (.goto 5, 3) := by decide +kernel
theorem dL_bid_149 : decode cL_bid 149 = .ok (.bipush (-9), 2) := by decide +kernel
theorem dL_bid_151 : decode cL_bid 151 = .ok (.ireturn, 1) := by decide +kernel
set_option maxRecDepth 20000 in
theorem ggL_drop_X3_count : GoodIn wsL_drop wsX3_count := goodIn_r _ [7, 8, 9, 10, 11, 12, 13, 14, 15, 16, 17, 18, 19, 20, 21, 22, 23, 24, 25, 26, 27, 28, 29, 30, 31, 32, 33, 34, 35, 36, 37, 38, 39, 40, 41, 42, 6, 43, 145, 146, 147, 148, 149, 150, 151, 152, 153, 154, 155, 156, 157, 158, 159, 160, 161, 162, 163, 164, 165, 166, 167] (by decide +kernel) (by decide +kernel)
set_option maxRecDepth 20000 in
theorem gL_drop_X3_count : GoodIn wsL_drop (wsV RL 13 RX3 yX3_count wsX3_count) := goodIn_app (goodIn_of _ (by decide +kernel)) ggL_drop_X3_count
set_option maxRecDepth 20000 in
theorem ggL_drop_X3_player : GoodIn wsL_drop wsX3_player := goodIn_r _ [47, 48, 8, 13, 49, 50, 51, 52, 14, 15, 53, 21, 54, 55, 6, 56, 145, 146, 147, 148, 149, 150, 151, 152, 153, 154, 155, 156, 157, 158, 159, 160, 161, 162] (by decide +kernel) (by decide +kernel)
set_option maxRecDepth 20000 in
theorem gL_drop_X3_player : GoodIn wsL_drop (wsV RL 19 RX3 yX3_player wsX3_player) := goodIn_app (goodIn_of _ (by decide +kernel)) ggL_drop_X3_player
set_option maxRecDepth 20000 in
theorem ggL_drop_X3_drop : GoodIn wsL_drop wsX3_drop := goodIn_r _ [60, 8, 10, 61, 19, 62, 63, 64, 65, 66, 67, 68, 69, 70, 25, 71, 72, 73, 74, 75, 76, 77, 78, 79, 80, 81, 82, 83, 84, 85, 34, 86, 87, 88, 89, 27, 28, 40, 90, 91, 92, 33, 93, 94, 95, 96, 97, 98, 99, 100, 101, 102, 103, 104, 105, 106, 55, 6, 56, 107, 37, 38, 39, 108, 109, 110, 111, 112, 113, 114, 115, 116, 117, 118, 119, 120, 121, 122, 123, 124, 125, 126, 127, 128, 129, 130, 131, 132, 133, 134, 135, 145, 146, 147, 148, 149, 150, 151, 152, 153, 154, 155, 156, 157, 158, 159, 160, 161, 162, 165, 166, 167] (by decide +kernel) (by decide +kernel)
set_option maxRecDepth 20000 in
theorem gL_drop_X3_drop : GoodIn wsL_drop (wsV RL 57 RX3 yX3_drop wsX3_drop) := goodIn_app (goodIn_of _ (by decide +kernel)) ggL_drop_X3_drop
set_option maxRecDepth 20000 in
theorem ggL_drop_L_size : GoodIn wsL_drop wsL_size := goodIn_q _ [139] [] rfl (by decide +kernel) (by decide +kernel)
set_option maxRecDepth 20000 in
theorem gL_drop_L_size : GoodIn wsL_drop (va_wsS RL 99 yL_size wsL_size) := goodIn_app (goodIn_of _ (by decide +kernel)) ggL_drop_L_size
set_option maxRecDepth 20000 in
theorem ggL_drop_X3_at : GoodIn wsL_drop wsX3_at := goodIn_r _ [143, 48, 8, 144, 133, 134, 25, 135, 89, 27, 145, 146, 147, 148, 149, 150, 151, 152, 153, 154, 155, 156, 157, 158, 159, 160, 161, 162] (by decide +kernel) (by decide +kernel)
set_option maxRecDepth 20000 in
theorem gL_drop_X3_at : GoodIn wsL_drop (wsV RL 23 RX3 yX3_at wsX3_at) := goodIn_app (goodIn_of _ (by decide +kernel)) ggL_drop_X3_at
theorem dL_drop_0 : decode cL_drop 0 = .ok (.aload_n 0, 1) := by decide +kernel
theorem dL_drop_1 : decode cL_drop 1 = .ok (.iconst 5, 1) := by decide +kernel
theorem dL_drop_2 : decode cL_drop 2 = .ok (.invokevirtual 13, 3) := by decide +kernel
theorem dL_drop_5 : decode cL_drop 5 = .ok (.istore_n 1, 1) := by decide +kernel
theorem dL_drop_6 : decode cL_drop 6 = .ok (.aload_n 0, 1) := by decide +kernel
theorem dL_drop_7 : decode cL_drop 7 = .ok (.bipush 8, 2) := by decide +kernel
theorem dL_drop_9 : decode cL_drop 9 = .ok (.invokevirtual 13, 3) := by decide +kernel
theorem dL_drop_12 : decode cL_drop 12 = .ok (.istore_n 2, 1) := by decide +kernel
theorem dL_drop_13 : decode cL_drop 13 = .ok (.aload_n 0, 1) := by decide +kernel
theorem dL_drop_14 : decode cL_drop 14 = .ok (.bipush 10, 2) := by decide +kernel
theorem dL_drop_16 : decode cL_drop 16 = .ok (.invokevirtual 13, 3) := by decide +kernel
theorem dL_drop_19 : decode cL_drop 19 = .ok (.istore_n 3, 1) := by decide +kernel
theorem dL_drop_20 : decode cL_drop 20 = .ok (.aload_n 0, 1) := by decide +kernel
theorem dL_drop_21 : decode cL_drop 21 = .ok (.bipush 11, 2) := by decide +kernel
theorem dL_drop_23 : decode cL_drop 23 = .ok (.invokevirtual 13, 3) := by decide +kernel
theorem dL_drop_26 : decode cL_drop 26 = .ok (.istore 4, 2) := by decide +kernel
theorem dL_drop_28 : decode cL_drop 28 = .ok (.aload_n 0, 1) := by decide +kernel
theorem dL_drop_29 : decode cL_drop 29 = .ok (.bipush 12, 2) := by decide +kernel
theorem dL_drop_31 : decode cL_drop 31 = .ok (.invokevirtual 13, 3) := by decide +kernel
theorem dL_drop_34 : decode cL_drop 34 = .ok (.istore 5, 2) := by decide +kernel
theorem dL_drop_36 : decode cL_drop 36 = .ok (.iload_n 1, 1) := by decide +kernel
theorem dL_drop_37 : decode cL_drop 37 = .ok (.ifCond .ge 8, 3) := by decide +kernel
theorem dL_drop_40 : decode cL_drop 40 = .ok (.ldc 31, 2) := by decide +kernel
theorem dL_drop_42 : decode cL_drop 42 = .ok (.goto 9, 3) := by decide +kernel
theorem dL_drop_45 : decode cL_drop 45 = .ok (.aload_n 0, 1) := by decide +kernel
theorem dL_drop_46 : decode cL_drop 46 = .ok (.iload_n 1, 1) := by decide +kernel
theorem dL_drop_47 : decode cL_drop 47 = .ok (.iconst 3, 1) := by decide +kernel
theorem dL_drop_48 : decode cL_drop 48 = .ok (.invokevirtual 19, 3) := by decide +kernel
theorem dL_drop_51 : decode cL_drop 51 = .ok (.istore 6, 2) := by decide +kernel
theorem dL_drop_53 : decode cL_drop 53 = .ok (.iload_n 1, 1) := by decide +kernel
theorem dL_drop_54 : decode cL_drop 54 = .ok (.ifCond .ge 7, 3) := by decide +kernel
theorem dL_drop_57 : decode cL_drop 57 = .ok (.iconst 0, 1) := by decide +kernel
theorem dL_drop_58 : decode cL_drop 58 = .ok (.goto 9, 3) := by decide +kernel
theorem dL_drop_61 : decode cL_drop 61 = .ok (.aload_n 0, 1) := by decide +kernel
theorem dL_drop_62 : decode cL_drop 62 = .ok (.iload_n 1, 1) := by decide +kernel
theorem dL_drop_63 : decode cL_drop 63 = .ok (.iconst 5, 1) := by decide +kernel
theorem dL_drop_64 : decode cL_drop 64 = .ok (.invokevirtual 19, 3) := by decide +kernel
theorem dL_drop_67 : decode cL_drop 67 = .ok (.istore 7, 2) := by decide +kernel
theorem dL_drop_69 : decode cL_drop 69 = .ok (.aload_n 0, 1) := by decide +kernel
theorem dL_drop_70 : decode cL_drop 70 = .ok (.invokevirtual 57, 3) := by decide +kernel
theorem dL_drop_73 : decode cL_drop 73 = .ok (.istore 8, 2) := by decide +kernel
theorem dL_drop_75 : decode cL_drop 75 = .ok (.iload_n 1, 1) := by decide +kernel
theorem dL_drop_76 : decode cL_drop 76 = .ok (.ifCond .ge 17, 3) := by decide +kernel
theorem dL_drop_79 : decode cL_drop 79 = .ok (.iload 8, 2) := by decide +kernel
theorem dL_drop_81 : decode cL_drop 81 = .ok (.ldc 36, 2) := by decide +kernel
theorem dL_drop_83 : decode cL_drop 83 = .ok (.if_icmp .ne 7, 3) := by decide +kernel
theorem dL_drop_86 : decode cL_drop 86 = .ok (.iconst 0, 1) := by decide +kernel
theorem dL_drop_87 : decode cL_drop 87 = .ok (.goto 5, 3) := by decide +kernel
theorem dL_drop_90 : decode cL_drop 90 = .ok (.bipush (-9), 2) := by decide +kernel
theorem dL_drop_92 : decode cL_drop 92 = .ok (.ireturn, 1) := by decide +kernel
theorem dL_drop_93 : decode cL_drop 93 = .ok (.aload_n 0, 1) := by decide +kernel
theorem dL_drop_94 : decode cL_drop 94 = .ok (.iload_n 1, 1) := by decide +kernel
theorem dL_drop_95 : decode cL_drop 95 = .ok (.iconst 5, 1) := by decide +kernel
theorem dL_drop_96 : decode cL_drop 96 = .ok (.invokevirtual 19, 3) := by decide +kernel
theorem dL_drop_99 : decode cL_drop 99 = .ok (.iload 7, 2) := by decide +kernel
theorem dL_drop_101 : decode cL_drop 101 = .ok (.iload 6, 2) := by decide +kernel
theorem dL_drop_103 : decode cL_drop 103 = .ok (.ldc 31, 2) := by decide +kernel
theorem dL_drop_105 : decode cL_drop 105 = .ok (.if_icmp .ne 7, 3) := by decide +kernel
theorem dL_drop_108 : decode cL_drop 108 = .ok (.iconst 0, 1) := by decide +kernel
theorem dL_drop_109 : decode cL_drop 109 = .ok (.goto 14, 3) := by decide +kernel
theorem dL_drop_112 : decode cL_drop 112 = .ok (.iload 6, 2) := by decide +kernel
theorem dL_drop_114 : decode cL_drop 114 = .ok (.aload_n 0, 1) := by decide +kernel
theorem dL_drop_115 : decode cL_drop 115 = .ok (.iconst 3, 1) := by decide +kernel
theorem dL_drop_116 : decode cL_drop 116 = .ok (.invokevirtual 13, 3) := by decide +kernel
theorem dL_drop_119 : decode cL_drop 119 = .ok (.imul, 1) := by decide +kernel
theorem dL_drop_120 : decode cL_drop 120 = .ok (.bipush 100, 2) := by decide +kernel
theorem dL_drop_122 : decode cL_drop 122 = .ok (.idiv, 1) := by decide +kernel
theorem dL_drop_123 : decode cL_drop 123 = .ok (.iadd, 1) := by decide +kernel
theorem dL_drop_124 : decode cL_drop 124 = .ok (.if_icmp .ne 16, 3) := by decide +kernel
theorem dL_drop_127 : decode cL_drop 127 = .ok (.aload_n 0, 1) := by decide +kernel
theorem dL_drop_128 : decode cL_drop 128 = .ok (.iload_n 1, 1) := by decide +kernel
theorem dL_drop_129 : decode cL_drop 129 = .ok (.iconst 0, 1) := by decide +kernel
theorem dL_drop_130 : decode cL_drop 130 = .ok (.invokevirtual 19, 3) := by decide +kernel
theorem dL_drop_133 : decode cL_drop 133 = .ok (.ifCond .lt 7, 3) := by decide +kernel
theorem dL_drop_136 : decode cL_drop 136 = .ok (.iconst 1, 1) := by decide +kernel
theorem dL_drop_137 : decode cL_drop 137 = .ok (.goto 4, 3) := by decide +kernel
theorem dL_drop_140 : decode cL_drop 140 = .ok (.iconst 0, 1) := by decide +kernel
theorem dL_drop_141 : decode cL_drop 141 = .ok (.istore 9, 2) := by decide +kernel
theorem dL_drop_143 : decode cL_drop 143 = .ok (.iload_n 2, 1) := by decide +kernel
theorem dL_drop_144 : decode cL_drop 144 = .ok (.invokestatic 99, 3) := by decide +kernel
theorem dL_drop_147 : decode cL_drop 147 = .ok (.iconst 2, 1) := by decide +kernel
theorem dL_drop_148 : decode cL_drop 148 = .ok (.if_icmp .le 79, 3) := by decide +kernel
theorem dL_drop_151 : decode cL_drop 151 = .ok (.iload 9, 2) := by decide +kernel
theorem dL_drop_153 : decode cL_drop 153 = .ok (.ifCond .eq 71, 3) := by decide +kernel
theorem dL_drop_156 : decode cL_drop 156 = .ok (.iload 8, 2) := by decide +kernel
theorem dL_drop_158 : decode cL_drop 158 = .ok (.ifCond .lt 66, 3) := by decide +kernel
theorem dL_drop_161 : decode cL_drop 161 = .ok (.aload_n 0, 1) := by decide +kernel
theorem dL_drop_162 : decode cL_drop 162 = .ok (.iconst 5, 1) := by decide +kernel
theorem dL_drop_163 : decode cL_drop 163 = .ok (.invokevirtual 13, 3) := by decide +kernel
theorem dL_drop_166 : decode cL_drop 166 = .ok (.iload 8, 2) := by decide +kernel
theorem dL_drop_168 : decode cL_drop 168 = .ok (.if_icmp .ne 56, 3) := by decide +kernel
theorem dL_drop_171 : decode cL_drop 171 = .ok (.aload_n 0, 1) := by decide +kernel
theorem dL_drop_172 : decode cL_drop 172 = .ok (.iload_n 1, 1) := by decide +kernel
theorem dL_drop_173 : decode cL_drop 173 = .ok (.iconst 4, 1) := by decide +kernel
theorem dL_drop_174 : decode cL_drop 174 = .ok (.invokevirtual 19, 3) := by decide +kernel
theorem dL_drop_177 : decode cL_drop 177 = .ok (.iload_n 2, 1) := by decide +kernel
theorem dL_drop_178 : decode cL_drop 178 = .ok (.invokestatic 99, 3) := by decide +kernel
theorem dL_drop_181 : decode cL_drop 181 = .ok (.iconst 1, 1) := by decide +kernel
theorem dL_drop_182 : decode cL_drop 182 = .ok (.isub, 1) := by decide +kernel
theorem dL_drop_183 : decode cL_drop 183 = .ok (.if_icmp .ne 41, 3) := by decide +kernel
theorem dL_drop_186 : decode cL_drop 186 = .ok (.aload_n 0, 1) := by decide +kernel
theorem dL_drop_187 : decode cL_drop 187 = .ok (.bipush 8, 2) := by decide +kernel
theorem dL_drop_189 : decode cL_drop 189 = .ok (.invokevirtual 13, 3) := by decide +kernel
theorem dL_drop_192 : decode cL_drop 192 = .ok (.iload_n 2, 1) := by decide +kernel
theorem dL_drop_193 : decode cL_drop 193 = .ok (.iconst 1, 1) := by decide +kernel
theorem dL_drop_194 : decode cL_drop 194 = .ok (.iload_n 1, 1) := by decide +kernel
theorem dL_drop_195 : decode cL_drop 195 = .ok (.ishl, 1) := by decide +kernel
theorem dL_drop_196 : decode cL_drop 196 = .ok (.isub, 1) := by decide +kernel
theorem dL_drop_197 : decode cL_drop 197 = .ok (.if_icmp .ne 27, 3) := by decide +kernel
theorem dL_drop_200 : decode cL_drop 200 = .ok (.aload_n 0, 1) := by decide +kernel
theorem dL_drop_201 : decode cL_drop 201 = .ok (.bipush 10, 2) := by decide +kernel
theorem dL_drop_203 : decode cL_drop 203 = .ok (.invokevirtual 13, 3) := by decide +kernel
theorem dL_drop_206 : decode cL_drop 206 = .ok (.iload_n 3, 1) := by decide +kernel
theorem dL_drop_207 : decode cL_drop 207 = .ok (.aload_n 0, 1) := by decide +kernel
theorem dL_drop_208 : decode cL_drop 208 = .ok (.bipush 11, 2) := by decide +kernel
theorem dL_drop_210 : decode cL_drop 210 = .ok (.invokevirtual 13, 3) := by decide +kernel
theorem dL_drop_213 : decode cL_drop 213 = .ok (.isub, 1) := by decide +kernel
theorem dL_drop_214 : decode cL_drop 214 = .ok (.iload 4, 2) := by decide +kernel
theorem dL_drop_216 : decode cL_drop 216 = .ok (.iadd, 1) := by decide +kernel
theorem dL_drop_217 : decode cL_drop 217 = .ok (.if_icmp .ne 7, 3) := by decide +kernel
theorem dL_drop_220 : decode cL_drop 220 = .ok (.iconst 1, 1) := by decide +kernel
theorem dL_drop_221 : decode cL_drop 221 = .ok (.goto 5, 3) := by decide +kernel
theorem dL_drop_224 : decode cL_drop 224 = .ok (.bipush (-9), 2) := by decide +kernel
theorem dL_drop_226 : decode cL_drop 226 = .ok (.ireturn, 1) := by decide +kernel
theorem dL_drop_227 : decode cL_drop 227 = .ok (.aload_n 0, 1) := by decide +kernel
theorem dL_drop_228 : decode cL_drop 228 = .ok (.iconst 0, 1) := by decide +kernel
theorem dL_drop_229 : decode cL_drop 229 = .ok (.invokevirtual 23, 3) := by decide +kernel
theorem dL_drop_232 : decode cL_drop 232 = .ok (.istore 10, 2) := by decide +kernel
theorem dL_drop_234 : decode cL_drop 234 = .ok (.iload 9, 2) := by decide +kernel
theorem dL_drop_236 : decode cL_drop 236 = .ok (.ifCond .eq 89, 3) := by decide +kernel
theorem dL_drop_239 : decode cL_drop 239 = .ok (.iload 8, 2) := by decide +kernel
theorem dL_drop_241 : decode cL_drop 241 = .ok (.ldc 31, 2) := by decide +kernel
theorem dL_drop_243 : decode cL_drop 243 = .ok (.if_icmp .ne 82, 3) := by decide +kernel
theorem dL_drop_246 : decode cL_drop 246 = .ok (.aload_n 0, 1) := by decide +kernel
theorem dL_drop_247 : decode cL_drop 247 = .ok (.iconst 4, 1) := by decide +kernel
theorem dL_drop_248 : decode cL_drop 248 = .ok (.invokevirtual 13, 3) := by decide +kernel
theorem dL_drop_251 : decode cL_drop 251 = .ok (.ifCond .ne 74, 3) := by decide +kernel
theorem dL_drop_254 : decode cL_drop 254 = .ok (.aload_n 0, 1) := by decide +kernel
theorem dL_drop_255 : decode cL_drop 255 = .ok (.iload_n 1, 1) := by decide +kernel
theorem dL_drop_256 : decode cL_drop 256 = .ok (.iconst 2, 1) := by decide +kernel
theorem dL_drop_257 : decode cL_drop 257 = .ok (.invokevirtual 19, 3) := by decide +kernel
theorem dL_drop_260 : decode cL_drop 260 = .ok (.iconst 1, 1) := by decide +kernel
theorem dL_drop_261 : decode cL_drop 261 = .ok (.if_icmp .ne 64, 3) := by decide +kernel
theorem dL_drop_264 : decode cL_drop 264 = .ok (.iload_n 2, 1) := by decide +kernel
theorem dL_drop_265 : decode cL_drop 265 = .ok (.iconst 1, 1) := by decide +kernel
theorem dL_drop_266 : decode cL_drop 266 = .ok (.iload_n 1, 1) := by decide +kernel
theorem dL_drop_267 : decode cL_drop 267 = .ok (.ishl, 1) := by decide +kernel
theorem dL_drop_268 : decode cL_drop 268 = .ok (.iconst 1, 1) := by decide +kernel
theorem dL_drop_269 : decode cL_drop 269 = .ok (.iload 10, 2) := by decide +kernel
theorem dL_drop_271 : decode cL_drop 271 = .ok (.ishl, 1) := by decide +kernel
theorem dL_drop_272 : decode cL_drop 272 = .ok (.ior, 1) := by decide +kernel
theorem dL_drop_273 : decode cL_drop 273 = .ok (.if_icmp .ne 52, 3) := by decide +kernel
theorem dL_drop_276 : decode cL_drop 276 = .ok (.aload_n 0, 1) := by decide +kernel
theorem dL_drop_277 : decode cL_drop 277 = .ok (.bipush 12, 2) := by decide +kernel
theorem dL_drop_279 : decode cL_drop 279 = .ok (.invokevirtual 13, 3) := by decide +kernel
theorem dL_drop_282 : decode cL_drop 282 = .ok (.iload 5, 2) := by decide +kernel
theorem dL_drop_284 : decode cL_drop 284 = .ok (.aload_n 0, 1) := by decide +kernel
theorem dL_drop_285 : decode cL_drop 285 = .ok (.bipush 13, 2) := by decide +kernel
theorem dL_drop_287 : decode cL_drop 287 = .ok (.invokevirtual 13, 3) := by decide +kernel
theorem dL_drop_290 : decode cL_drop 290 = .ok (.iadd, 1) := by decide +kernel
theorem dL_drop_291 : decode cL_drop 291 = .ok (.if_icmp .ne 34, 3) := by decide +kernel
theorem dL_drop_294 : decode cL_drop 294 = .ok (.aload_n 0, 1) := by decide +kernel
theorem dL_drop_295 : decode cL_drop 295 = .ok (.bipush 10, 2) := by decide +kernel
theorem dL_drop_297 : decode cL_drop 297 = .ok (.invokevirtual 13, 3) := by decide +kernel
theorem dL_drop_300 : decode cL_drop 300 = .ok (.iload_n 3, 1) := by decide +kernel
theorem dL_drop_301 : decode cL_drop 301 = .ok (.aload_n 0, 1) := by decide +kernel
theorem dL_drop_302 : decode cL_drop 302 = .ok (.bipush 11, 2) := by decide +kernel
theorem dL_drop_304 : decode cL_drop 304 = .ok (.invokevirtual 13, 3) := by decide +kernel
theorem dL_drop_307 : decode cL_drop 307 = .ok (.isub, 1) := by decide +kernel
theorem dL_drop_308 : decode cL_drop 308 = .ok (.iload 4, 2) := by decide +kernel
theorem dL_drop_310 : decode cL_drop 310 = .ok (.iadd, 1) := by decide +kernel
theorem dL_drop_311 : decode cL_drop 311 = .ok (.aload_n 0, 1) := by decide +kernel
theorem dL_drop_312 : decode cL_drop 312 = .ok (.bipush 13, 2) := by decide +kernel
theorem dL_drop_314 : decode cL_drop 314 = .ok (.invokevirtual 13, 3) := by decide +kernel
theorem dL_drop_317 : decode cL_drop 317 = .ok (.iadd, 1) := by decide +kernel
theorem dL_drop_318 : decode cL_drop 318 = .ok (.if_icmp .gt 7, 3) := by decide +kernel
theorem dL_drop_321 : decode cL_drop 321 = .ok (.iconst 1, 1) := by decide +kernel
theorem dL_drop_322 : decode cL_drop 322 = .ok (.goto 5, 3) := by decide +kernel
theorem dL_drop_325 : decode cL_drop 325 = .ok (.bipush (-9), 2) := by decide +kernel
theorem dL_drop_327 : decode cL_drop 327 = .ok (.ireturn, 1) := by decide +kernel
