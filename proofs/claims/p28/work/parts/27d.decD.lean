set_option maxRecDepth 20000 in
theorem ggL_act_X3_count : GoodIn wsL_act wsX3_count := goodIn_r _ [7, 8, 9, 10, 11, 12, 13, 14, 15, 16, 17, 18, 19, 20, 21, 22, 23, 24, 25, 26, 27, 28, 29, 30, 31, 32, 33, 34, 35, 36, 37, 38, 39, 40, 41, 42, 6, 43, 225, 226, 227, 228, 229, 230, 231, 232, 233, 234, 235, 236, 237, 238, 239, 240, 241, 242, 243, 244, 245, 246, 247] (by decide +kernel) (by decide +kernel)
set_option maxRecDepth 20000 in
theorem gL_act_X3_count : GoodIn wsL_act (wsV RL 13 RX3 yX3_count wsX3_count) := goodIn_app (goodIn_of _ (by decide +kernel)) ggL_act_X3_count
set_option maxRecDepth 20000 in
theorem ggL_act_X3_begin : GoodIn wsL_act wsX3_begin := goodIn_r _ [47, 8, 10, 48, 19, 49, 50, 51, 52, 53, 54, 55, 56, 57, 25, 58, 59, 60, 61, 62, 63, 64, 65, 66, 67, 68, 69, 70, 71, 72, 34, 73, 74, 75, 76, 27, 28, 40, 77, 78, 79, 33, 80, 81, 82, 83, 84, 85, 86, 87, 88, 89, 90, 91, 92, 93, 94, 95, 96, 97, 225, 226, 227, 228, 229, 230, 231, 232, 233, 234, 235, 236, 237, 238, 239, 240, 241, 242, 245, 246, 247] (by decide +kernel) (by decide +kernel)
set_option maxRecDepth 20000 in
theorem gL_act_X3_begin : GoodIn wsL_act (wsV RL 54 RX3 yX3_begin wsX3_begin) := goodIn_app (goodIn_of _ (by decide +kernel)) ggL_act_X3_begin
set_option maxRecDepth 20000 in
theorem ggL_act_X3_at : GoodIn wsL_act wsX3_at := goodIn_r _ [101, 102, 8, 103, 95, 96, 25, 97, 76, 27, 225, 226, 227, 228, 229, 230, 231, 232, 233, 234, 235, 236, 237, 238, 239, 240, 241, 242] (by decide +kernel) (by decide +kernel)
set_option maxRecDepth 20000 in
theorem gL_act_X3_at : GoodIn wsL_act (wsV RL 23 RX3 yX3_at wsX3_at) := goodIn_app (goodIn_of _ (by decide +kernel)) ggL_act_X3_at
set_option maxRecDepth 20000 in
theorem ggL_act_L_bid : GoodIn wsL_act wsL_bid := goodIn_q _ [107, 7, 26, 32, 39, 43, 111, 119, 123, 127, 53, 62, 66, 68, 71, 85, 132, 136, 97] [1, 3, 4, 5, 6, 8, 9, 10, 11, 12, 13, 14, 15, 16, 17, 18, 19, 20, 21, 22, 23, 24, 25, 27, 28, 29, 30, 31, 33, 34, 35, 36, 37, 38, 40, 41, 42, 108, 109, 110, 102, 112, 113, 114, 115, 116, 117, 118, 120, 121, 122, 48, 124, 125, 126, 80, 74, 128, 49, 50, 51, 52, 54, 55, 56, 57, 58, 59, 60, 61, 63, 64, 65, 67, 69, 70, 72, 73, 75, 76, 77, 78, 79, 81, 82, 83, 84, 86, 87, 88, 89, 129, 130, 131, 133, 134, 135, 94, 95, 96, 225, 226, 227, 228, 229, 230, 231, 232, 233, 234, 235, 236, 237, 238, 239, 240, 241, 242, 243, 244, 245, 246, 247] rfl (by decide +kernel) (by decide +kernel)
set_option maxRecDepth 20000 in
theorem gL_act_L_bid : GoodIn wsL_act (va_wsS RL 102 yL_bid wsL_bid) := goodIn_app (goodIn_of _ (by decide +kernel)) ggL_act_L_bid
set_option maxRecDepth 20000 in
theorem ggL_act_L_drop : GoodIn wsL_act wsL_drop := goodIn_q _ [139, 7, 26, 32, 39, 43, 111, 119, 143, 53, 62, 66, 68, 71, 85, 147, 152, 159, 163, 168, 136, 97, 171, 101] [2, 1, 3, 4, 5, 6, 8, 9, 10, 11, 12, 13, 14, 15, 16, 17, 18, 19, 20, 21, 22, 23, 24, 25, 27, 28, 29, 30, 31, 33, 34, 35, 36, 37, 38, 40, 41, 42, 108, 109, 110, 102, 112, 113, 114, 115, 116, 117, 118, 140, 141, 142, 48, 49, 50, 51, 52, 54, 55, 56, 57, 58, 59, 60, 61, 63, 64, 65, 67, 69, 70, 72, 73, 74, 75, 76, 77, 78, 79, 80, 81, 82, 83, 84, 86, 87, 88, 89, 144, 145, 146, 148, 149, 150, 151, 153, 154, 155, 156, 157, 158, 160, 161, 162, 164, 165, 166, 167, 133, 134, 135, 94, 95, 96, 169, 170, 106, 98, 99, 100, 103, 225, 226, 227, 228, 229, 230, 231, 232, 233, 234, 235, 236, 237, 238, 239, 240, 241, 242, 243, 244, 245, 246, 247] rfl (by decide +kernel) (by decide +kernel)
set_option maxRecDepth 20000 in
theorem gL_act_L_drop : GoodIn wsL_act (va_wsS RL 105 yL_drop wsL_drop) := goodIn_app (goodIn_of _ (by decide +kernel)) ggL_act_L_drop
set_option maxRecDepth 20000 in
theorem ggL_act_X3_player : GoodIn wsL_act wsX3_player := goodIn_r _ [111, 102, 8, 13, 112, 113, 114, 115, 14, 15, 116, 21, 117, 118, 6, 119, 225, 226, 227, 228, 229, 230, 231, 232, 233, 234, 235, 236, 237, 238, 239, 240, 241, 242] (by decide +kernel) (by decide +kernel)
set_option maxRecDepth 20000 in
theorem gL_act_X3_player : GoodIn wsL_act (wsV RL 19 RX3 yX3_player wsX3_player) := goodIn_app (goodIn_of _ (by decide +kernel)) ggL_act_X3_player
set_option maxRecDepth 20000 in
theorem ggL_act_X3_act : GoodIn wsL_act wsX3_act := goodIn_r _ [175, 8, 10, 48, 19, 49, 50, 51, 52, 53, 54, 55, 56, 57, 25, 58, 59, 60, 61, 62, 63, 64, 65, 66, 67, 68, 69, 70, 71, 72, 34, 73, 74, 75, 76, 27, 28, 40, 77, 78, 79, 33, 80, 81, 82, 83, 84, 85, 86, 87, 88, 89, 176, 177, 178, 179, 128, 30, 31, 32, 35, 23, 24, 26, 118, 6, 119, 180, 125, 126, 127, 181, 130, 131, 132, 133, 134, 135, 136, 94, 95, 96, 97, 182, 145, 146, 147, 148, 37, 38, 39, 149, 150, 151, 152, 153, 154, 155, 156, 157, 158, 159, 160, 161, 162, 163, 164, 165, 166, 167, 168, 225, 226, 227, 228, 229, 230, 231, 232, 233, 234, 235, 236, 237, 238, 239, 240, 241, 242, 245, 246, 247] (by decide +kernel) (by decide +kernel)
set_option maxRecDepth 20000 in
theorem gL_act_X3_act : GoodIn wsL_act (wsV RL 60 RX3 yX3_act wsX3_act) := goodIn_app (goodIn_of _ (by decide +kernel)) ggL_act_X3_act
set_option maxRecDepth 20000 in
theorem ggL_act_X3_finish : GoodIn wsL_act wsX3_finish := goodIn_r _ [186, 19, 8, 49, 50, 51, 52, 53, 54, 55, 56, 57, 25, 58, 59, 60, 61, 62, 63, 64, 65, 66, 67, 68, 69, 70, 71, 72, 34, 73, 74, 75, 76, 27, 28, 40, 77, 78, 79, 33, 80, 81, 82, 83, 84, 85, 86, 87, 88, 89, 187, 188, 189, 190, 191, 91, 92, 93, 94, 95, 96, 97, 192, 177, 178, 179, 128, 30, 31, 32, 35, 23, 24, 26, 118, 6, 119, 180, 125, 126, 127, 181, 130, 131, 132, 133, 134, 135, 136, 182, 145, 146, 147, 148, 37, 38, 39, 149, 150, 151, 152, 153, 154, 155, 156, 157, 158, 159, 160, 161, 162, 163, 164, 165, 166, 167, 168, 103, 225, 226, 227, 228, 229, 245, 246, 247, 230, 231, 232, 233, 234, 235, 236, 237, 238, 239, 240, 241, 242] (by decide +kernel) (by decide +kernel)
set_option maxRecDepth 20000 in
theorem gL_act_X3_finish : GoodIn wsL_act (wsV RL 108 RX3 yX3_finish wsX3_finish) := goodIn_app (goodIn_of _ (by decide +kernel)) ggL_act_X3_finish
set_option maxRecDepth 20000 in
theorem ggL_act_X3_coins : GoodIn wsL_act wsX3_coins := goodIn_r _ [196, 102, 21, 8, 48, 19, 13, 117, 118, 6, 119, 197, 198, 199, 25, 200, 40, 27, 28, 201, 202, 61, 203, 49, 50, 51, 52, 53, 54, 55, 56, 57, 58, 59, 60, 62, 63, 64, 65, 66, 67, 68, 69, 70, 71, 72, 34, 73, 74, 75, 76, 77, 78, 79, 33, 80, 81, 82, 83, 84, 85, 86, 87, 88, 89, 225, 226, 227, 228, 229, 230, 231, 232, 233, 234, 235, 236, 237, 238, 239, 240, 241, 242, 245, 246, 247] (by decide +kernel) (by decide +kernel)
set_option maxRecDepth 20000 in
theorem gL_act_X3_coins : GoodIn wsL_act (wsV RL 41 RX3 yX3_coins wsX3_coins) := goodIn_app (goodIn_of _ (by decide +kernel)) ggL_act_X3_coins
set_option maxRecDepth 20000 in
theorem ggL_act_X3_limit : GoodIn wsL_act wsX3_limit := goodIn_r _ [207, 102, 21, 19, 8, 112, 117, 118, 6, 119, 49, 50, 51, 52, 53, 54, 55, 56, 57, 25, 58, 59, 60, 61, 62, 63, 64, 65, 66, 67, 68, 69, 70, 71, 72, 34, 73, 74, 75, 76, 27, 28, 40, 77, 78, 79, 33, 80, 81, 82, 83, 84, 85, 86, 87, 88, 89, 225, 226, 227, 228, 229, 230, 231, 232, 233, 234, 235, 236, 237, 238, 239, 240, 241, 242, 245, 246, 247] (by decide +kernel) (by decide +kernel)
set_option maxRecDepth 20000 in
theorem gL_act_X3_limit : GoodIn wsL_act (wsV RL 45 RX3 yX3_limit wsX3_limit) := goodIn_app (goodIn_of _ (by decide +kernel)) ggL_act_X3_limit
set_option maxRecDepth 20000 in
theorem ggL_act_X3_prizeOf : GoodIn wsL_act wsX3_prizeOf := goodIn_r _ [211, 102, 8, 16, 212, 213, 6, 214, 225, 226, 227, 228, 229, 230, 231, 232, 233, 234, 235, 236, 237, 238, 239, 240, 241, 242] (by decide +kernel) (by decide +kernel)
set_option maxRecDepth 20000 in
theorem gL_act_X3_prizeOf : GoodIn wsL_act (wsV RL 26 RX3 yX3_prizeOf wsX3_prizeOf) := goodIn_app (goodIn_of _ (by decide +kernel)) ggL_act_X3_prizeOf
set_option maxRecDepth 20000 in
theorem ggL_act_X3_prize : GoodIn wsL_act wsX3_prize := goodIn_r _ [218, 102, 21, 19, 8, 16, 212, 213, 6, 214, 49, 50, 51, 52, 53, 54, 55, 56, 57, 25, 58, 59, 60, 61, 62, 63, 64, 65, 66, 67, 68, 69, 70, 71, 72, 34, 73, 74, 75, 76, 27, 28, 40, 77, 78, 79, 33, 80, 81, 82, 83, 84, 85, 86, 87, 88, 89, 225, 226, 227, 228, 229, 230, 231, 232, 233, 234, 235, 236, 237, 238, 239, 240, 241, 242, 245, 246, 247] (by decide +kernel) (by decide +kernel)
set_option maxRecDepth 20000 in
theorem gL_act_X3_prize : GoodIn wsL_act (wsV RL 48 RX3 yX3_prize wsX3_prize) := goodIn_app (goodIn_of _ (by decide +kernel)) ggL_act_X3_prize
set_option maxRecDepth 20000 in
theorem ggL_act_X3_set : GoodIn wsL_act wsX3_set := goodIn_r _ [222, 21, 223, 224, 19, 8, 9, 49, 50, 51, 52, 53, 54, 55, 56, 57, 25, 58, 59, 60, 61, 62, 63, 64, 65, 66, 67, 68, 69, 70, 71, 72, 34, 73, 74, 75, 76, 27, 28, 40, 77, 78, 79, 33, 80, 81, 82, 83, 84, 85, 86, 87, 88, 89, 225, 226, 227, 228, 229, 230, 231, 232, 233, 234, 235, 236, 237, 238, 239, 240, 241, 242, 245, 246, 247] (by decide +kernel) (by decide +kernel)
set_option maxRecDepth 20000 in
theorem gL_act_X3_set : GoodIn wsL_act (wsV RL 37 RX3 yX3_set wsX3_set) := goodIn_app (goodIn_of _ (by decide +kernel)) ggL_act_X3_set
theorem dL_act_0 : decode cL_act 0 = .ok (.iload_n 1, 1) := by decide +kernel
theorem dL_act_1 : decode cL_act 1 = .ok (.bipush 16, 2) := by decide +kernel
theorem dL_act_3 : decode cL_act 3 = .ok (.irem, 1) := by decide +kernel
theorem dL_act_4 : decode cL_act 4 = .ok (.istore_n 2, 1) := by decide +kernel
theorem dL_act_5 : decode cL_act 5 = .ok (.iload_n 1, 1) := by decide +kernel
theorem dL_act_6 : decode cL_act 6 = .ok (.bipush 16, 2) := by decide +kernel
theorem dL_act_8 : decode cL_act 8 = .ok (.idiv, 1) := by decide +kernel
theorem dL_act_9 : decode cL_act 9 = .ok (.istore_n 3, 1) := by decide +kernel
theorem dL_act_10 : decode cL_act 10 = .ok (.iload_n 3, 1) := by decide +kernel
theorem dL_act_11 : decode cL_act 11 = .ok (.iconst 5, 1) := by decide +kernel
theorem dL_act_12 : decode cL_act 12 = .ok (.irem, 1) := by decide +kernel
theorem dL_act_13 : decode cL_act 13 = .ok (.istore 4, 2) := by decide +kernel
theorem dL_act_15 : decode cL_act 15 = .ok (.aload_n 0, 1) := by decide +kernel
theorem dL_act_16 : decode cL_act 16 = .ok (.iconst 4, 1) := by decide +kernel
theorem dL_act_17 : decode cL_act 17 = .ok (.invokevirtual 13, 3) := by decide +kernel
theorem dL_act_20 : decode cL_act 20 = .ok (.iconst 1, 1) := by decide +kernel
theorem dL_act_21 : decode cL_act 21 = .ok (.if_icmp .ne 7, 3) := by decide +kernel
theorem dL_act_24 : decode cL_act 24 = .ok (.iconst 1, 1) := by decide +kernel
theorem dL_act_25 : decode cL_act 25 = .ok (.goto 4, 3) := by decide +kernel
theorem dL_act_28 : decode cL_act 28 = .ok (.iconst 0, 1) := by decide +kernel
theorem dL_act_29 : decode cL_act 29 = .ok (.istore 5, 2) := by decide +kernel
theorem dL_act_31 : decode cL_act 31 = .ok (.iload_n 2, 1) := by decide +kernel
theorem dL_act_32 : decode cL_act 32 = .ok (.iconst 2, 1) := by decide +kernel
theorem dL_act_33 : decode cL_act 33 = .ok (.if_icmp .ge 69, 3) := by decide +kernel
theorem dL_act_36 : decode cL_act 36 = .ok (.aload_n 0, 1) := by decide +kernel
theorem dL_act_37 : decode cL_act 37 = .ok (.invokevirtual 54, 3) := by decide +kernel
theorem dL_act_40 : decode cL_act 40 = .ok (.istore 6, 2) := by decide +kernel
theorem dL_act_42 : decode cL_act 42 = .ok (.iload 5, 2) := by decide +kernel
theorem dL_act_44 : decode cL_act 44 = .ok (.ifCond .eq 19, 3) := by decide +kernel
theorem dL_act_47 : decode cL_act 47 = .ok (.iload 6, 2) := by decide +kernel
theorem dL_act_49 : decode cL_act 49 = .ok (.ldc 36, 2) := by decide +kernel
theorem dL_act_51 : decode cL_act 51 = .ok (.if_icmp .ne 7, 3) := by decide +kernel
theorem dL_act_54 : decode cL_act 54 = .ok (.iconst 0, 1) := by decide +kernel
theorem dL_act_55 : decode cL_act 55 = .ok (.goto 46, 3) := by decide +kernel
theorem dL_act_58 : decode cL_act 58 = .ok (.bipush (-9), 2) := by decide +kernel
theorem dL_act_60 : decode cL_act 60 = .ok (.goto 41, 3) := by decide +kernel
theorem dL_act_63 : decode cL_act 63 = .ok (.iload 6, 2) := by decide +kernel
theorem dL_act_65 : decode cL_act 65 = .ok (.aload_n 0, 1) := by decide +kernel
theorem dL_act_66 : decode cL_act 66 = .ok (.iconst 0, 1) := by decide +kernel
theorem dL_act_67 : decode cL_act 67 = .ok (.invokevirtual 23, 3) := by decide +kernel
theorem dL_act_70 : decode cL_act 70 = .ok (.if_icmp .ne 29, 3) := by decide +kernel
theorem dL_act_73 : decode cL_act 73 = .ok (.aload_n 0, 1) := by decide +kernel
theorem dL_act_74 : decode cL_act 74 = .ok (.bipush 8, 2) := by decide +kernel
theorem dL_act_76 : decode cL_act 76 = .ok (.invokevirtual 13, 3) := by decide +kernel
theorem dL_act_79 : decode cL_act 79 = .ok (.bipush 31, 2) := by decide +kernel
theorem dL_act_81 : decode cL_act 81 = .ok (.if_icmp .ne 18, 3) := by decide +kernel
theorem dL_act_84 : decode cL_act 84 = .ok (.aload_n 0, 1) := by decide +kernel
theorem dL_act_85 : decode cL_act 85 = .ok (.bipush 6, 2) := by decide +kernel
theorem dL_act_87 : decode cL_act 87 = .ok (.invokevirtual 13, 3) := by decide +kernel
theorem dL_act_90 : decode cL_act 90 = .ok (.ldc 31, 2) := by decide +kernel
theorem dL_act_92 : decode cL_act 92 = .ok (.if_icmp .ne 7, 3) := by decide +kernel
theorem dL_act_95 : decode cL_act 95 = .ok (.iconst 1, 1) := by decide +kernel
theorem dL_act_96 : decode cL_act 96 = .ok (.goto 5, 3) := by decide +kernel
theorem dL_act_99 : decode cL_act 99 = .ok (.bipush (-9), 2) := by decide +kernel
theorem dL_act_101 : decode cL_act 101 = .ok (.ireturn, 1) := by decide +kernel
theorem dL_act_102 : decode cL_act 102 = .ok (.iload_n 2, 1) := by decide +kernel
theorem dL_act_103 : decode cL_act 103 = .ok (.bipush 6, 2) := by decide +kernel
theorem dL_act_105 : decode cL_act 105 = .ok (.if_icmp .ge 40, 3) := by decide +kernel
theorem dL_act_108 : decode cL_act 108 = .ok (.aload_n 0, 1) := by decide +kernel
theorem dL_act_109 : decode cL_act 109 = .ok (.iload 5, 2) := by decide +kernel
theorem dL_act_111 : decode cL_act 111 = .ok (.ifCond .eq 24, 3) := by decide +kernel
theorem dL_act_114 : decode cL_act 114 = .ok (.iload_n 3, 1) := by decide +kernel
theorem dL_act_115 : decode cL_act 115 = .ok (.iconst 5, 1) := by decide +kernel
theorem dL_act_116 : decode cL_act 116 = .ok (.irem, 1) := by decide +kernel
theorem dL_act_117 : decode cL_act 117 = .ok (.ifCond .le 18, 3) := by decide +kernel
theorem dL_act_120 : decode cL_act 120 = .ok (.aload_n 0, 1) := by decide +kernel
theorem dL_act_121 : decode cL_act 121 = .ok (.bipush 7, 2) := by decide +kernel
theorem dL_act_123 : decode cL_act 123 = .ok (.invokevirtual 13, 3) := by decide +kernel
theorem dL_act_126 : decode cL_act 126 = .ok (.iload_n 3, 1) := by decide +kernel
theorem dL_act_127 : decode cL_act 127 = .ok (.iconst 5, 1) := by decide +kernel
theorem dL_act_128 : decode cL_act 128 = .ok (.idiv, 1) := by decide +kernel
theorem dL_act_129 : decode cL_act 129 = .ok (.iconst 3, 1) := by decide +kernel
theorem dL_act_130 : decode cL_act 130 = .ok (.irem, 1) := by decide +kernel
theorem dL_act_131 : decode cL_act 131 = .ok (.iadd, 1) := by decide +kernel
theorem dL_act_132 : decode cL_act 132 = .ok (.goto 9, 3) := by decide +kernel
theorem dL_act_135 : decode cL_act 135 = .ok (.iload_n 3, 1) := by decide +kernel
theorem dL_act_136 : decode cL_act 136 = .ok (.iconst 5, 1) := by decide +kernel
theorem dL_act_137 : decode cL_act 137 = .ok (.idiv, 1) := by decide +kernel
theorem dL_act_138 : decode cL_act 138 = .ok (.bipush 30, 2) := by decide +kernel
theorem dL_act_140 : decode cL_act 140 = .ok (.irem, 1) := by decide +kernel
theorem dL_act_141 : decode cL_act 141 = .ok (.invokestatic 102, 3) := by decide +kernel
theorem dL_act_144 : decode cL_act 144 = .ok (.ireturn, 1) := by decide +kernel
theorem dL_act_145 : decode cL_act 145 = .ok (.iload_n 2, 1) := by decide +kernel
theorem dL_act_146 : decode cL_act 146 = .ok (.bipush 8, 2) := by decide +kernel
theorem dL_act_148 : decode cL_act 148 = .ok (.if_icmp .ge 8, 3) := by decide +kernel
theorem dL_act_151 : decode cL_act 151 = .ok (.aload_n 0, 1) := by decide +kernel
theorem dL_act_152 : decode cL_act 152 = .ok (.invokestatic 105, 3) := by decide +kernel
theorem dL_act_155 : decode cL_act 155 = .ok (.ireturn, 1) := by decide +kernel
theorem dL_act_156 : decode cL_act 156 = .ok (.iload_n 2, 1) := by decide +kernel
theorem dL_act_157 : decode cL_act 157 = .ok (.bipush 11, 2) := by decide +kernel
theorem dL_act_159 : decode cL_act 159 = .ok (.if_icmp .ge 163, 3) := by decide +kernel
theorem dL_act_162 : decode cL_act 162 = .ok (.aload_n 0, 1) := by decide +kernel
theorem dL_act_163 : decode cL_act 163 = .ok (.iconst 5, 1) := by decide +kernel
theorem dL_act_164 : decode cL_act 164 = .ok (.invokevirtual 13, 3) := by decide +kernel
theorem dL_act_167 : decode cL_act 167 = .ok (.istore 6, 2) := by decide +kernel
theorem dL_act_169 : decode cL_act 169 = .ok (.aload_n 0, 1) := by decide +kernel
theorem dL_act_170 : decode cL_act 170 = .ok (.bipush 7, 2) := by decide +kernel
theorem dL_act_172 : decode cL_act 172 = .ok (.invokevirtual 13, 3) := by decide +kernel
theorem dL_act_175 : decode cL_act 175 = .ok (.istore 7, 2) := by decide +kernel
theorem dL_act_177 : decode cL_act 177 = .ok (.iload 5, 2) := by decide +kernel
theorem dL_act_179 : decode cL_act 179 = .ok (.ifCond .eq 31, 3) := by decide +kernel
theorem dL_act_182 : decode cL_act 182 = .ok (.iload 7, 2) := by decide +kernel
theorem dL_act_184 : decode cL_act 184 = .ok (.aload_n 0, 1) := by decide +kernel
theorem dL_act_185 : decode cL_act 185 = .ok (.iload 6, 2) := by decide +kernel
theorem dL_act_187 : decode cL_act 187 = .ok (.iconst 1, 1) := by decide +kernel
theorem dL_act_188 : decode cL_act 188 = .ok (.invokevirtual 19, 3) := by decide +kernel
theorem dL_act_191 : decode cL_act 191 = .ok (.if_icmp .gt 19, 3) := by decide +kernel
theorem dL_act_194 : decode cL_act 194 = .ok (.iload 7, 2) := by decide +kernel
theorem dL_act_196 : decode cL_act 196 = .ok (.aload_n 0, 1) := by decide +kernel
theorem dL_act_197 : decode cL_act 197 = .ok (.iload 6, 2) := by decide +kernel
theorem dL_act_199 : decode cL_act 199 = .ok (.iconst 0, 1) := by decide +kernel
theorem dL_act_200 : decode cL_act 200 = .ok (.invokevirtual 19, 3) := by decide +kernel
theorem dL_act_203 : decode cL_act 203 = .ok (.if_icmp .gt 7, 3) := by decide +kernel
theorem dL_act_206 : decode cL_act 206 = .ok (.iconst 1, 1) := by decide +kernel
theorem dL_act_207 : decode cL_act 207 = .ok (.goto 4, 3) := by decide +kernel
theorem dL_act_210 : decode cL_act 210 = .ok (.iconst 0, 1) := by decide +kernel
theorem dL_act_211 : decode cL_act 211 = .ok (.istore 8, 2) := by decide +kernel
theorem dL_act_213 : decode cL_act 213 = .ok (.aload_n 0, 1) := by decide +kernel
theorem dL_act_214 : decode cL_act 214 = .ok (.invokevirtual 60, 3) := by decide +kernel
theorem dL_act_217 : decode cL_act 217 = .ok (.istore 9, 2) := by decide +kernel
theorem dL_act_219 : decode cL_act 219 = .ok (.iload 5, 2) := by decide +kernel
theorem dL_act_221 : decode cL_act 221 = .ok (.ifCond .ne 17, 3) := by decide +kernel
theorem dL_act_224 : decode cL_act 224 = .ok (.iload 9, 2) := by decide +kernel
theorem dL_act_226 : decode cL_act 226 = .ok (.ldc 36, 2) := by decide +kernel
theorem dL_act_228 : decode cL_act 228 = .ok (.if_icmp .ne 7, 3) := by decide +kernel
theorem dL_act_231 : decode cL_act 231 = .ok (.iconst 0, 1) := by decide +kernel
theorem dL_act_232 : decode cL_act 232 = .ok (.goto 5, 3) := by decide +kernel
theorem dL_act_235 : decode cL_act 235 = .ok (.bipush (-9), 2) := by decide +kernel
theorem dL_act_237 : decode cL_act 237 = .ok (.ireturn, 1) := by decide +kernel
theorem dL_act_238 : decode cL_act 238 = .ok (.iload 8, 2) := by decide +kernel
theorem dL_act_240 : decode cL_act 240 = .ok (.ifCond .eq 40, 3) := by decide +kernel
theorem dL_act_243 : decode cL_act 243 = .ok (.aload_n 0, 1) := by decide +kernel
theorem dL_act_244 : decode cL_act 244 = .ok (.bipush 6, 2) := by decide +kernel
theorem dL_act_246 : decode cL_act 246 = .ok (.invokevirtual 13, 3) := by decide +kernel
theorem dL_act_249 : decode cL_act 249 = .ok (.iload 7, 2) := by decide +kernel
theorem dL_act_251 : decode cL_act 251 = .ok (.if_icmp .ne 24, 3) := by decide +kernel
theorem dL_act_254 : decode cL_act 254 = .ok (.aload_n 0, 1) := by decide +kernel
theorem dL_act_255 : decode cL_act 255 = .ok (.iload 6, 2) := by decide +kernel
theorem dL_act_257 : decode cL_act 257 = .ok (.iconst 3, 1) := by decide +kernel
theorem dL_act_258 : decode cL_act 258 = .ok (.invokevirtual 19, 3) := by decide +kernel
theorem dL_act_261 : decode cL_act 261 = .ok (.iload 7, 2) := by decide +kernel
theorem dL_act_263 : decode cL_act 263 = .ok (.if_icmp .ne 12, 3) := by decide +kernel
theorem dL_act_266 : decode cL_act 266 = .ok (.iload 9, 2) := by decide +kernel
theorem dL_act_268 : decode cL_act 268 = .ok (.ifCond .lt 7, 3) := by decide +kernel
theorem dL_act_271 : decode cL_act 271 = .ok (.iconst 1, 1) := by decide +kernel
theorem dL_act_272 : decode cL_act 272 = .ok (.goto 49, 3) := by decide +kernel
theorem dL_act_275 : decode cL_act 275 = .ok (.bipush (-9), 2) := by decide +kernel
theorem dL_act_277 : decode cL_act 277 = .ok (.goto 44, 3) := by decide +kernel
theorem dL_act_280 : decode cL_act 280 = .ok (.iload 9, 2) := by decide +kernel
theorem dL_act_282 : decode cL_act 282 = .ok (.ldc 31, 2) := by decide +kernel
theorem dL_act_284 : decode cL_act 284 = .ok (.if_icmp .ne 20, 3) := by decide +kernel
theorem dL_act_287 : decode cL_act 287 = .ok (.aload_n 0, 1) := by decide +kernel
theorem dL_act_288 : decode cL_act 288 = .ok (.iconst 4, 1) := by decide +kernel
theorem dL_act_289 : decode cL_act 289 = .ok (.invokevirtual 13, 3) := by decide +kernel
theorem dL_act_292 : decode cL_act 292 = .ok (.ifCond .ne 7, 3) := by decide +kernel
theorem dL_act_295 : decode cL_act 295 = .ok (.iconst 1, 1) := by decide +kernel
theorem dL_act_296 : decode cL_act 296 = .ok (.goto 25, 3) := by decide +kernel
theorem dL_act_299 : decode cL_act 299 = .ok (.bipush (-9), 2) := by decide +kernel
theorem dL_act_301 : decode cL_act 301 = .ok (.goto 20, 3) := by decide +kernel
theorem dL_act_304 : decode cL_act 304 = .ok (.aload_n 0, 1) := by decide +kernel
theorem dL_act_305 : decode cL_act 305 = .ok (.iload 6, 2) := by decide +kernel
theorem dL_act_307 : decode cL_act 307 = .ok (.iconst 4, 1) := by decide +kernel
theorem dL_act_308 : decode cL_act 308 = .ok (.invokevirtual 19, 3) := by decide +kernel
theorem dL_act_311 : decode cL_act 311 = .ok (.iconst 1, 1) := by decide +kernel
theorem dL_act_312 : decode cL_act 312 = .ok (.if_icmp .le 7, 3) := by decide +kernel
theorem dL_act_315 : decode cL_act 315 = .ok (.iconst 1, 1) := by decide +kernel
theorem dL_act_316 : decode cL_act 316 = .ok (.goto 5, 3) := by decide +kernel
theorem dL_act_319 : decode cL_act 319 = .ok (.bipush (-9), 2) := by decide +kernel
theorem dL_act_321 : decode cL_act 321 = .ok (.ireturn, 1) := by decide +kernel
theorem dL_act_322 : decode cL_act 322 = .ok (.iload_n 2, 1) := by decide +kernel
theorem dL_act_323 : decode cL_act 323 = .ok (.bipush 11, 2) := by decide +kernel
theorem dL_act_325 : decode cL_act 325 = .ok (.if_icmp .ne 81, 3) := by decide +kernel
theorem dL_act_328 : decode cL_act 328 = .ok (.aload_n 0, 1) := by decide +kernel
theorem dL_act_329 : decode cL_act 329 = .ok (.bipush 9, 2) := by decide +kernel
theorem dL_act_331 : decode cL_act 331 = .ok (.invokevirtual 13, 3) := by decide +kernel
theorem dL_act_334 : decode cL_act 334 = .ok (.istore 6, 2) := by decide +kernel
theorem dL_act_336 : decode cL_act 336 = .ok (.aload_n 0, 1) := by decide +kernel
theorem dL_act_337 : decode cL_act 337 = .ok (.bipush 12, 2) := by decide +kernel
theorem dL_act_339 : decode cL_act 339 = .ok (.invokevirtual 13, 3) := by decide +kernel
theorem dL_act_342 : decode cL_act 342 = .ok (.istore 7, 2) := by decide +kernel
theorem dL_act_344 : decode cL_act 344 = .ok (.aload_n 0, 1) := by decide +kernel
theorem dL_act_345 : decode cL_act 345 = .ok (.invokevirtual 108, 3) := by decide +kernel
theorem dL_act_348 : decode cL_act 348 = .ok (.istore 8, 2) := by decide +kernel
theorem dL_act_350 : decode cL_act 350 = .ok (.iload 8, 2) := by decide +kernel
theorem dL_act_352 : decode cL_act 352 = .ok (.aload_n 0, 1) := by decide +kernel
theorem dL_act_353 : decode cL_act 353 = .ok (.iconst 0, 1) := by decide +kernel
theorem dL_act_354 : decode cL_act 354 = .ok (.invokevirtual 23, 3) := by decide +kernel
theorem dL_act_357 : decode cL_act 357 = .ok (.if_icmp .ne 46, 3) := by decide +kernel
theorem dL_act_360 : decode cL_act 360 = .ok (.aload_n 0, 1) := by decide +kernel
theorem dL_act_361 : decode cL_act 361 = .ok (.bipush 9, 2) := by decide +kernel
theorem dL_act_363 : decode cL_act 363 = .ok (.invokevirtual 13, 3) := by decide +kernel
theorem dL_act_366 : decode cL_act 366 = .ok (.iload 6, 2) := by decide +kernel
theorem dL_act_368 : decode cL_act 368 = .ok (.iconst 1, 1) := by decide +kernel
theorem dL_act_369 : decode cL_act 369 = .ok (.iadd, 1) := by decide +kernel
theorem dL_act_370 : decode cL_act 370 = .ok (.if_icmp .ne 33, 3) := by decide +kernel
theorem dL_act_373 : decode cL_act 373 = .ok (.aload_n 0, 1) := by decide +kernel
theorem dL_act_374 : decode cL_act 374 = .ok (.bipush 12, 2) := by decide +kernel
theorem dL_act_376 : decode cL_act 376 = .ok (.invokevirtual 13, 3) := by decide +kernel
theorem dL_act_379 : decode cL_act 379 = .ok (.iload 7, 2) := by decide +kernel
theorem dL_act_381 : decode cL_act 381 = .ok (.aload_n 0, 1) := by decide +kernel
theorem dL_act_382 : decode cL_act 382 = .ok (.bipush 13, 2) := by decide +kernel
theorem dL_act_384 : decode cL_act 384 = .ok (.invokevirtual 13, 3) := by decide +kernel
theorem dL_act_387 : decode cL_act 387 = .ok (.iadd, 1) := by decide +kernel
theorem dL_act_388 : decode cL_act 388 = .ok (.if_icmp .ne 15, 3) := by decide +kernel
theorem dL_act_391 : decode cL_act 391 = .ok (.aload_n 0, 1) := by decide +kernel
theorem dL_act_392 : decode cL_act 392 = .ok (.iconst 4, 1) := by decide +kernel
theorem dL_act_393 : decode cL_act 393 = .ok (.invokevirtual 13, 3) := by decide +kernel
theorem dL_act_396 : decode cL_act 396 = .ok (.ifCond .ne 7, 3) := by decide +kernel
theorem dL_act_399 : decode cL_act 399 = .ok (.iconst 1, 1) := by decide +kernel
theorem dL_act_400 : decode cL_act 400 = .ok (.goto 5, 3) := by decide +kernel
theorem dL_act_403 : decode cL_act 403 = .ok (.bipush (-9), 2) := by decide +kernel
theorem dL_act_405 : decode cL_act 405 = .ok (.ireturn, 1) := by decide +kernel
theorem dL_act_406 : decode cL_act 406 = .ok (.iload_n 2, 1) := by decide +kernel
theorem dL_act_407 : decode cL_act 407 = .ok (.bipush 12, 2) := by decide +kernel
theorem dL_act_409 : decode cL_act 409 = .ok (.if_icmp .ne 130, 3) := by decide +kernel
theorem dL_act_412 : decode cL_act 412 = .ok (.iload_n 3, 1) := by decide +kernel
theorem dL_act_413 : decode cL_act 413 = .ok (.iconst 5, 1) := by decide +kernel
theorem dL_act_414 : decode cL_act 414 = .ok (.idiv, 1) := by decide +kernel
theorem dL_act_415 : decode cL_act 415 = .ok (.iconst 4, 1) := by decide +kernel
theorem dL_act_416 : decode cL_act 416 = .ok (.irem, 1) := by decide +kernel
theorem dL_act_417 : decode cL_act 417 = .ok (.ifCond .ne 17, 3) := by decide +kernel
theorem dL_act_420 : decode cL_act 420 = .ok (.sipush 9990, 3) := by decide +kernel
theorem dL_act_423 : decode cL_act 423 = .ok (.iload_n 3, 1) := by decide +kernel
theorem dL_act_424 : decode cL_act 424 = .ok (.bipush 20, 2) := by decide +kernel
theorem dL_act_426 : decode cL_act 426 = .ok (.idiv, 1) := by decide +kernel
theorem dL_act_427 : decode cL_act 427 = .ok (.bipush 10, 2) := by decide +kernel
theorem dL_act_429 : decode cL_act 429 = .ok (.irem, 1) := by decide +kernel
theorem dL_act_430 : decode cL_act 430 = .ok (.iadd, 1) := by decide +kernel
theorem dL_act_431 : decode cL_act 431 = .ok (.goto 9, 3) := by decide +kernel
theorem dL_act_434 : decode cL_act 434 = .ok (.iload_n 3, 1) := by decide +kernel
theorem dL_act_435 : decode cL_act 435 = .ok (.iconst 5, 1) := by decide +kernel
theorem dL_act_436 : decode cL_act 436 = .ok (.idiv, 1) := by decide +kernel
theorem dL_act_437 : decode cL_act 437 = .ok (.bipush 50, 2) := by decide +kernel
theorem dL_act_439 : decode cL_act 439 = .ok (.irem, 1) := by decide +kernel
theorem dL_act_440 : decode cL_act 440 = .ok (.istore 6, 2) := by decide +kernel
theorem dL_act_442 : decode cL_act 442 = .ok (.aload_n 0, 1) := by decide +kernel
theorem dL_act_443 : decode cL_act 443 = .ok (.iload 4, 2) := by decide +kernel
theorem dL_act_445 : decode cL_act 445 = .ok (.iconst 3, 1) := by decide +kernel
theorem dL_act_446 : decode cL_act 446 = .ok (.invokevirtual 19, 3) := by decide +kernel
theorem dL_act_449 : decode cL_act 449 = .ok (.iload 6, 2) := by decide +kernel
theorem dL_act_451 : decode cL_act 451 = .ok (.if_icmp .le 19, 3) := by decide +kernel
theorem dL_act_454 : decode cL_act 454 = .ok (.aload_n 0, 1) := by decide +kernel
theorem dL_act_455 : decode cL_act 455 = .ok (.iload 4, 2) := by decide +kernel
theorem dL_act_457 : decode cL_act 457 = .ok (.iconst 4, 1) := by decide +kernel
theorem dL_act_458 : decode cL_act 458 = .ok (.invokevirtual 19, 3) := by decide +kernel
theorem dL_act_461 : decode cL_act 461 = .ok (.ldc 31, 2) := by decide +kernel
theorem dL_act_463 : decode cL_act 463 = .ok (.if_icmp .ne 7, 3) := by decide +kernel
theorem dL_act_466 : decode cL_act 466 = .ok (.iconst 1, 1) := by decide +kernel
theorem dL_act_467 : decode cL_act 467 = .ok (.goto 4, 3) := by decide +kernel
theorem dL_act_470 : decode cL_act 470 = .ok (.iconst 0, 1) := by decide +kernel
theorem dL_act_471 : decode cL_act 471 = .ok (.istore 7, 2) := by decide +kernel
theorem dL_act_473 : decode cL_act 473 = .ok (.aload_n 0, 1) := by decide +kernel
theorem dL_act_474 : decode cL_act 474 = .ok (.iload 4, 2) := by decide +kernel
theorem dL_act_476 : decode cL_act 476 = .ok (.iconst 0, 1) := by decide +kernel
theorem dL_act_477 : decode cL_act 477 = .ok (.invokevirtual 19, 3) := by decide +kernel
theorem dL_act_480 : decode cL_act 480 = .ok (.istore 8, 2) := by decide +kernel
theorem dL_act_482 : decode cL_act 482 = .ok (.aload_n 0, 1) := by decide +kernel
theorem dL_act_483 : decode cL_act 483 = .ok (.iload 4, 2) := by decide +kernel
theorem dL_act_485 : decode cL_act 485 = .ok (.iload 6, 2) := by decide +kernel
theorem dL_act_487 : decode cL_act 487 = .ok (.invokevirtual 41, 3) := by decide +kernel
theorem dL_act_490 : decode cL_act 490 = .ok (.istore 9, 2) := by decide +kernel
theorem dL_act_492 : decode cL_act 492 = .ok (.iload 7, 2) := by decide +kernel
theorem dL_act_494 : decode cL_act 494 = .ok (.ifCond .eq 19, 3) := by decide +kernel
theorem dL_act_497 : decode cL_act 497 = .ok (.iload 9, 2) := by decide +kernel
theorem dL_act_499 : decode cL_act 499 = .ok (.ldc 36, 2) := by decide +kernel
theorem dL_act_501 : decode cL_act 501 = .ok (.if_icmp .ne 7, 3) := by decide +kernel
theorem dL_act_504 : decode cL_act 504 = .ok (.iconst 0, 1) := by decide +kernel
theorem dL_act_505 : decode cL_act 505 = .ok (.goto 33, 3) := by decide +kernel
theorem dL_act_508 : decode cL_act 508 = .ok (.bipush (-9), 2) := by decide +kernel
theorem dL_act_510 : decode cL_act 510 = .ok (.goto 28, 3) := by decide +kernel
theorem dL_act_513 : decode cL_act 513 = .ok (.iload 9, 2) := by decide +kernel
theorem dL_act_515 : decode cL_act 515 = .ok (.iload 8, 2) := by decide +kernel
theorem dL_act_517 : decode cL_act 517 = .ok (.if_icmp .ne 19, 3) := by decide +kernel
theorem dL_act_520 : decode cL_act 520 = .ok (.aload_n 0, 1) := by decide +kernel
theorem dL_act_521 : decode cL_act 521 = .ok (.iload 4, 2) := by decide +kernel
theorem dL_act_523 : decode cL_act 523 = .ok (.iconst 0, 1) := by decide +kernel
theorem dL_act_524 : decode cL_act 524 = .ok (.invokevirtual 19, 3) := by decide +kernel
theorem dL_act_527 : decode cL_act 527 = .ok (.iload 6, 2) := by decide +kernel
theorem dL_act_529 : decode cL_act 529 = .ok (.if_icmp .ne 7, 3) := by decide +kernel
theorem dL_act_532 : decode cL_act 532 = .ok (.iconst 1, 1) := by decide +kernel
theorem dL_act_533 : decode cL_act 533 = .ok (.goto 5, 3) := by decide +kernel
theorem dL_act_536 : decode cL_act 536 = .ok (.bipush (-9), 2) := by decide +kernel
theorem dL_act_538 : decode cL_act 538 = .ok (.ireturn, 1) := by decide +kernel
theorem dL_act_539 : decode cL_act 539 = .ok (.iload_n 2, 1) := by decide +kernel
theorem dL_act_540 : decode cL_act 540 = .ok (.bipush 13, 2) := by decide +kernel
theorem dL_act_542 : decode cL_act 542 = .ok (.if_icmp .ne 52, 3) := by decide +kernel
theorem dL_act_545 : decode cL_act 545 = .ok (.aload_n 0, 1) := by decide +kernel
theorem dL_act_546 : decode cL_act 546 = .ok (.iload 4, 2) := by decide +kernel
theorem dL_act_548 : decode cL_act 548 = .ok (.iconst 1, 1) := by decide +kernel
theorem dL_act_549 : decode cL_act 549 = .ok (.invokevirtual 19, 3) := by decide +kernel
theorem dL_act_552 : decode cL_act 552 = .ok (.istore 6, 2) := by decide +kernel
theorem dL_act_554 : decode cL_act 554 = .ok (.iload_n 3, 1) := by decide +kernel
theorem dL_act_555 : decode cL_act 555 = .ok (.iconst 5, 1) := by decide +kernel
theorem dL_act_556 : decode cL_act 556 = .ok (.idiv, 1) := by decide +kernel
theorem dL_act_557 : decode cL_act 557 = .ok (.bipush 40, 2) := by decide +kernel
theorem dL_act_559 : decode cL_act 559 = .ok (.irem, 1) := by decide +kernel
theorem dL_act_560 : decode cL_act 560 = .ok (.istore 7, 2) := by decide +kernel
theorem dL_act_562 : decode cL_act 562 = .ok (.aload_n 0, 1) := by decide +kernel
theorem dL_act_563 : decode cL_act 563 = .ok (.iload 4, 2) := by decide +kernel
theorem dL_act_565 : decode cL_act 565 = .ok (.iload 7, 2) := by decide +kernel
theorem dL_act_567 : decode cL_act 567 = .ok (.invokevirtual 45, 3) := by decide +kernel
theorem dL_act_570 : decode cL_act 570 = .ok (.iload 6, 2) := by decide +kernel
theorem dL_act_572 : decode cL_act 572 = .ok (.if_icmp .ne 19, 3) := by decide +kernel
theorem dL_act_575 : decode cL_act 575 = .ok (.aload_n 0, 1) := by decide +kernel
theorem dL_act_576 : decode cL_act 576 = .ok (.iload 4, 2) := by decide +kernel
theorem dL_act_578 : decode cL_act 578 = .ok (.iconst 1, 1) := by decide +kernel
theorem dL_act_579 : decode cL_act 579 = .ok (.invokevirtual 19, 3) := by decide +kernel
theorem dL_act_582 : decode cL_act 582 = .ok (.iload 7, 2) := by decide +kernel
theorem dL_act_584 : decode cL_act 584 = .ok (.if_icmp .ne 7, 3) := by decide +kernel
theorem dL_act_587 : decode cL_act 587 = .ok (.iconst 1, 1) := by decide +kernel
theorem dL_act_588 : decode cL_act 588 = .ok (.goto 5, 3) := by decide +kernel
theorem dL_act_591 : decode cL_act 591 = .ok (.bipush (-9), 2) := by decide +kernel
theorem dL_act_593 : decode cL_act 593 = .ok (.ireturn, 1) := by decide +kernel
theorem dL_act_594 : decode cL_act 594 = .ok (.iload_n 2, 1) := by decide +kernel
theorem dL_act_595 : decode cL_act 595 = .ok (.bipush 14, 2) := by decide +kernel
theorem dL_act_597 : decode cL_act 597 = .ok (.if_icmp .ne 50, 3) := by decide +kernel
theorem dL_act_600 : decode cL_act 600 = .ok (.aload_n 0, 1) := by decide +kernel
theorem dL_act_601 : decode cL_act 601 = .ok (.iload 4, 2) := by decide +kernel
theorem dL_act_603 : decode cL_act 603 = .ok (.invokevirtual 26, 3) := by decide +kernel
theorem dL_act_606 : decode cL_act 606 = .ok (.istore 6, 2) := by decide +kernel
theorem dL_act_608 : decode cL_act 608 = .ok (.iload_n 3, 1) := by decide +kernel
theorem dL_act_609 : decode cL_act 609 = .ok (.iconst 5, 1) := by decide +kernel
theorem dL_act_610 : decode cL_act 610 = .ok (.idiv, 1) := by decide +kernel
theorem dL_act_611 : decode cL_act 611 = .ok (.bipush 100, 2) := by decide +kernel
theorem dL_act_613 : decode cL_act 613 = .ok (.irem, 1) := by decide +kernel
theorem dL_act_614 : decode cL_act 614 = .ok (.istore 7, 2) := by decide +kernel
theorem dL_act_616 : decode cL_act 616 = .ok (.aload_n 0, 1) := by decide +kernel
theorem dL_act_617 : decode cL_act 617 = .ok (.iload 4, 2) := by decide +kernel
theorem dL_act_619 : decode cL_act 619 = .ok (.iload 7, 2) := by decide +kernel
theorem dL_act_621 : decode cL_act 621 = .ok (.invokevirtual 48, 3) := by decide +kernel
theorem dL_act_624 : decode cL_act 624 = .ok (.iload 6, 2) := by decide +kernel
theorem dL_act_626 : decode cL_act 626 = .ok (.if_icmp .ne 18, 3) := by decide +kernel
theorem dL_act_629 : decode cL_act 629 = .ok (.aload_n 0, 1) := by decide +kernel
theorem dL_act_630 : decode cL_act 630 = .ok (.iload 4, 2) := by decide +kernel
theorem dL_act_632 : decode cL_act 632 = .ok (.invokevirtual 26, 3) := by decide +kernel
theorem dL_act_635 : decode cL_act 635 = .ok (.iload 7, 2) := by decide +kernel
theorem dL_act_637 : decode cL_act 637 = .ok (.if_icmp .ne 7, 3) := by decide +kernel
theorem dL_act_640 : decode cL_act 640 = .ok (.iconst 1, 1) := by decide +kernel
theorem dL_act_641 : decode cL_act 641 = .ok (.goto 5, 3) := by decide +kernel
theorem dL_act_644 : decode cL_act 644 = .ok (.bipush (-9), 2) := by decide +kernel
theorem dL_act_646 : decode cL_act 646 = .ok (.ireturn, 1) := by decide +kernel
theorem dL_act_647 : decode cL_act 647 = .ok (.iload_n 3, 1) := by decide +kernel
theorem dL_act_648 : decode cL_act 648 = .ok (.iconst 4, 1) := by decide +kernel
theorem dL_act_649 : decode cL_act 649 = .ok (.irem, 1) := by decide +kernel
theorem dL_act_650 : decode cL_act 650 = .ok (.istore 6, 2) := by decide +kernel
theorem dL_act_652 : decode cL_act 652 = .ok (.iload 6, 2) := by decide +kernel
theorem dL_act_654 : decode cL_act 654 = .ok (.ifCond .ne 14, 3) := by decide +kernel
theorem dL_act_657 : decode cL_act 657 = .ok (.iconst 1, 1) := by decide +kernel
theorem dL_act_658 : decode cL_act 658 = .ok (.iload_n 3, 1) := by decide +kernel
theorem dL_act_659 : decode cL_act 659 = .ok (.iconst 4, 1) := by decide +kernel
theorem dL_act_660 : decode cL_act 660 = .ok (.idiv, 1) := by decide +kernel
theorem dL_act_661 : decode cL_act 661 = .ok (.bipush 9, 2) := by decide +kernel
theorem dL_act_663 : decode cL_act 663 = .ok (.irem, 1) := by decide +kernel
theorem dL_act_664 : decode cL_act 664 = .ok (.iadd, 1) := by decide +kernel
theorem dL_act_665 : decode cL_act 665 = .ok (.goto 24, 3) := by decide +kernel
theorem dL_act_668 : decode cL_act 668 = .ok (.iload 6, 2) := by decide +kernel
theorem dL_act_670 : decode cL_act 670 = .ok (.iconst 1, 1) := by decide +kernel
theorem dL_act_671 : decode cL_act 671 = .ok (.if_icmp .ne 12, 3) := by decide +kernel
theorem dL_act_674 : decode cL_act 674 = .ok (.iload_n 3, 1) := by decide +kernel
theorem dL_act_675 : decode cL_act 675 = .ok (.iconst 4, 1) := by decide +kernel
theorem dL_act_676 : decode cL_act 676 = .ok (.idiv, 1) := by decide +kernel
theorem dL_act_677 : decode cL_act 677 = .ok (.bipush 21, 2) := by decide +kernel
theorem dL_act_679 : decode cL_act 679 = .ok (.irem, 1) := by decide +kernel
theorem dL_act_680 : decode cL_act 680 = .ok (.goto 9, 3) := by decide +kernel
theorem dL_act_683 : decode cL_act 683 = .ok (.iload_n 3, 1) := by decide +kernel
theorem dL_act_684 : decode cL_act 684 = .ok (.iconst 4, 1) := by decide +kernel
theorem dL_act_685 : decode cL_act 685 = .ok (.idiv, 1) := by decide +kernel
theorem dL_act_686 : decode cL_act 686 = .ok (.bipush 101, 2) := by decide +kernel
theorem dL_act_688 : decode cL_act 688 = .ok (.irem, 1) := by decide +kernel
theorem dL_act_689 : decode cL_act 689 = .ok (.istore 7, 2) := by decide +kernel
theorem dL_act_691 : decode cL_act 691 = .ok (.aload_n 0, 1) := by decide +kernel
theorem dL_act_692 : decode cL_act 692 = .ok (.iload 6, 2) := by decide +kernel
theorem dL_act_694 : decode cL_act 694 = .ok (.invokevirtual 13, 3) := by decide +kernel
theorem dL_act_697 : decode cL_act 697 = .ok (.istore 8, 2) := by decide +kernel
theorem dL_act_699 : decode cL_act 699 = .ok (.aload_n 0, 1) := by decide +kernel
theorem dL_act_700 : decode cL_act 700 = .ok (.iload 6, 2) := by decide +kernel
theorem dL_act_702 : decode cL_act 702 = .ok (.iload 7, 2) := by decide +kernel
theorem dL_act_704 : decode cL_act 704 = .ok (.invokevirtual 37, 3) := by decide +kernel
theorem dL_act_707 : decode cL_act 707 = .ok (.iload 8, 2) := by decide +kernel
theorem dL_act_709 : decode cL_act 709 = .ok (.if_icmp .ne 18, 3) := by decide +kernel
theorem dL_act_712 : decode cL_act 712 = .ok (.aload_n 0, 1) := by decide +kernel
theorem dL_act_713 : decode cL_act 713 = .ok (.iload 6, 2) := by decide +kernel
theorem dL_act_715 : decode cL_act 715 = .ok (.invokevirtual 13, 3) := by decide +kernel
theorem dL_act_718 : decode cL_act 718 = .ok (.iload 7, 2) := by decide +kernel
theorem dL_act_720 : decode cL_act 720 = .ok (.if_icmp .ne 7, 3) := by decide +kernel
theorem dL_act_723 : decode cL_act 723 = .ok (.iconst 1, 1) := by decide +kernel
theorem dL_act_724 : decode cL_act 724 = .ok (.goto 5, 3) := by decide +kernel
theorem dL_act_727 : decode cL_act 727 = .ok (.bipush (-9), 2) := by decide +kernel
theorem dL_act_729 : decode cL_act 729 = .ok (.ireturn, 1) := by decide +kernel
