set_option maxRecDepth 20000 in
theorem ggL_law_X3_init : GoodIn wsL_law wsX3_init := goodIn_r _ [6, 7, 8, 9, 10, 11, 12, 13, 14, 15, 16, 17, 18, 19, 20, 21, 22, 23, 24, 25, 26, 27, 28, 29, 30, 31, 32, 33, 34, 35, 36, 37, 38, 39, 40, 41, 42, 43, 44, 45, 46, 47, 48, 49, 50, 51, 52, 53, 54, 353, 354, 355, 356, 357, 358, 359, 360, 361, 362, 363, 364, 365, 348, 349, 350, 351, 352, 366, 367, 368, 369, 370] (by decide +kernel) (by decide +kernel)
set_option maxRecDepth 20000 in
theorem gL_law_X3_init : GoodIn wsL_law (wsX3_init) := ggL_law_X3_init
set_option maxRecDepth 20000 in
theorem ggL_law_X3_undo : GoodIn wsL_law wsX3_undo := goodIn_r _ [58, 18, 59, 60, 13, 61, 62, 63, 17, 64, 46, 47, 48, 65, 66, 67, 68, 69, 70, 71, 12, 72, 28, 73, 74, 75, 76, 29, 30, 31, 32, 34, 35, 36, 37, 38, 39, 40, 41, 348, 349, 350, 351, 352, 366, 367, 368, 353, 354, 355, 356, 357, 358, 359, 360, 361, 362, 363, 364, 365] (by decide +kernel) (by decide +kernel)
set_option maxRecDepth 20000 in
theorem gL_law_X3_undo : GoodIn wsL_law (wsV RL 112 RX3 yX3_undo wsX3_undo) := goodIn_app (goodIn_of _ (by decide +kernel)) ggL_law_X3_undo
set_option maxRecDepth 20000 in
theorem ggL_law_X3_restore : GoodIn wsL_law wsX3_restore := goodIn_r _ [80, 81, 19, 60, 18, 13, 82, 83, 84, 85, 17, 86, 47, 46, 45, 11, 12, 48, 87, 88, 89, 90, 65, 66, 67, 68, 24, 25, 26, 8, 9, 27, 28, 29, 30, 31, 32, 33, 34, 35, 36, 37, 38, 39, 40, 41, 69, 70, 71, 72, 73, 74, 75, 76, 91, 92, 93, 2, 94, 348, 349, 350, 351, 352, 353, 354, 355, 356, 357, 358, 359, 360, 361, 362, 363, 364, 365, 366, 367, 368] (by decide +kernel) (by decide +kernel)
set_option maxRecDepth 20000 in
theorem gL_law_X3_restore : GoodIn wsL_law (wsV RL 78 RX3 yX3_restore wsX3_restore) := goodIn_app (goodIn_of _ (by decide +kernel)) ggL_law_X3_restore
set_option maxRecDepth 20000 in
theorem ggL_law_X3_count : GoodIn wsL_law wsX3_count := goodIn_r _ [98, 13, 99, 100, 101, 102, 82, 103, 104, 105, 23, 106, 18, 59, 81, 107, 108, 109, 12, 110, 33, 34, 111, 112, 113, 114, 39, 28, 115, 116, 117, 118, 119, 35, 92, 93, 2, 94, 348, 349, 350, 351, 352, 353, 354, 355, 356, 357, 358, 359, 360, 361, 362, 363, 364, 365, 369, 370, 366, 367, 368] (by decide +kernel) (by decide +kernel)
set_option maxRecDepth 20000 in
theorem gL_law_X3_count : GoodIn wsL_law (wsV RL 13 RX3 yX3_count wsX3_count) := goodIn_app (goodIn_of _ (by decide +kernel)) ggL_law_X3_count
set_option maxRecDepth 20000 in
theorem ggL_law_L_refuses : GoodIn wsL_law wsL_refuses := goodIn_q _ [123, 126, 98, 110, 114, 119, 94, 132, 141, 145, 149, 153, 156, 159, 166, 86, 90, 68, 25, 9, 72, 172, 176, 179, 183, 187, 191, 195, 200, 204, 209, 213, 217, 221, 226, 233, 237, 242, 246, 250, 257, 261, 265, 271, 276, 280, 284, 80, 288, 292, 297, 302, 305, 308, 314, 318] [124, 125, 122, 127, 128, 95, 96, 97, 2, 13, 99, 100, 101, 102, 82, 103, 104, 105, 23, 106, 18, 59, 81, 107, 108, 109, 12, 33, 34, 111, 112, 113, 39, 28, 115, 116, 117, 118, 35, 92, 93, 129, 130, 131, 133, 134, 135, 136, 137, 138, 139, 140, 142, 143, 144, 146, 147, 148, 32, 150, 151, 152, 154, 155, 157, 158, 160, 161, 3, 162, 163, 164, 165, 167, 168, 83, 84, 85, 17, 47, 46, 45, 11, 48, 87, 88, 89, 65, 66, 67, 24, 26, 8, 27, 29, 30, 31, 36, 37, 38, 40, 41, 69, 70, 71, 73, 74, 75, 76, 169, 170, 171, 60, 173, 174, 175, 177, 178, 180, 181, 182, 184, 185, 186, 188, 189, 190, 192, 193, 194, 196, 197, 198, 199, 201, 202, 203, 205, 206, 207, 208, 210, 211, 212, 214, 215, 216, 218, 219, 220, 222, 223, 224, 225, 227, 228, 229, 230, 231, 232, 234, 235, 236, 238, 239, 240, 241, 243, 244, 245, 247, 248, 249, 251, 252, 253, 254, 255, 256, 14, 258, 259, 260, 91, 262, 263, 264, 266, 267, 268, 269, 270, 272, 273, 274, 275, 277, 278, 279, 281, 282, 283, 19, 10, 77, 78, 79, 285, 286, 287, 289, 290, 291, 293, 294, 295, 296, 22, 54, 298, 299, 300, 301, 53, 303, 304, 306, 307, 309, 310, 311, 312, 313, 315, 316, 317, 348, 349, 350, 351, 352, 353, 354, 355, 356, 357, 358, 359, 360, 361, 362, 363, 364, 365, 369, 370, 366, 367, 368] rfl (by decide +kernel) (by decide +kernel)
set_option maxRecDepth 20000 in
theorem gL_law_L_refuses : GoodIn wsL_law (va_wsS RL 115 yL_refuses wsL_refuses) := goodIn_app (goodIn_of _ (by decide +kernel)) ggL_law_L_refuses
set_option maxRecDepth 20000 in
theorem ggL_law_X3_save : GoodIn wsL_law wsX3_save := goodIn_r _ [284, 81, 19, 10, 11, 12, 13, 82, 24, 25, 26, 8, 9, 27, 28, 29, 30, 31, 32, 33, 34, 35, 36, 37, 38, 39, 40, 41, 91, 70, 71, 72, 73, 74, 75, 76, 92, 93, 2, 94, 348, 349, 350, 351, 352, 353, 354, 355, 356, 357, 358, 359, 360, 361, 362, 363, 364, 365] (by decide +kernel) (by decide +kernel)
set_option maxRecDepth 20000 in
theorem gL_law_X3_save : GoodIn wsL_law (wsV RL 75 RX3 yX3_save wsX3_save) := goodIn_app (goodIn_of _ (by decide +kernel)) ggL_law_X3_save
set_option maxRecDepth 20000 in
theorem ggL_law_L_cell : GoodIn wsL_law wsL_cell := goodIn_q _ [321] [322, 323] rfl (by decide +kernel) (by decide +kernel)
set_option maxRecDepth 20000 in
theorem gL_law_L_cell : GoodIn wsL_law (va_wsS RL 118 yL_cell wsL_cell) := goodIn_app (goodIn_of _ (by decide +kernel)) ggL_law_L_cell
set_option maxRecDepth 20000 in
theorem ggL_law_L_seen : GoodIn wsL_law wsL_seen := goodIn_q _ [126, 98, 110, 114, 119, 94, 132, 141, 145, 149, 153, 156] [127, 128, 95, 96, 97, 2, 13, 99, 100, 101, 102, 82, 103, 104, 105, 23, 106, 18, 59, 81, 107, 108, 109, 12, 33, 34, 111, 112, 113, 39, 28, 115, 116, 117, 118, 35, 92, 93, 129, 130, 131, 133, 134, 135, 136, 137, 138, 139, 140, 142, 143, 144, 146, 147, 148, 32, 150, 151, 152, 154, 155, 348, 349, 350, 351, 352, 353, 354, 355, 356, 357, 358, 359, 360, 361, 362, 363, 364, 365, 369, 370, 366, 367, 368] rfl (by decide +kernel) (by decide +kernel)
set_option maxRecDepth 20000 in
theorem gL_law_L_seen : GoodIn wsL_law (va_wsS RL 91 yL_seen wsL_seen) := goodIn_app (goodIn_of _ (by decide +kernel)) ggL_law_L_seen
set_option maxRecDepth 20000 in
theorem ggL_law_L_act : GoodIn wsL_law wsL_act := goodIn_q _ [326, 98, 110, 114, 119, 94, 209, 86, 90, 68, 25, 9, 72, 213, 149, 145, 330, 132, 141, 191, 195, 200, 204, 333, 217, 221, 226, 233, 237, 242, 336, 246, 250, 340, 265, 172, 176, 179, 183, 153, 156, 187, 166] [3, 327, 95, 96, 97, 2, 13, 99, 100, 101, 102, 82, 103, 104, 105, 23, 106, 18, 59, 81, 107, 108, 109, 12, 33, 34, 111, 112, 113, 39, 28, 115, 116, 117, 118, 35, 92, 93, 206, 207, 208, 60, 83, 84, 85, 17, 47, 46, 45, 11, 48, 87, 88, 89, 65, 66, 67, 24, 26, 8, 27, 29, 30, 31, 32, 36, 37, 38, 40, 41, 69, 70, 71, 73, 74, 75, 76, 210, 211, 212, 205, 147, 148, 142, 143, 144, 133, 146, 328, 329, 122, 129, 130, 131, 134, 135, 136, 137, 138, 139, 140, 188, 189, 190, 192, 193, 194, 196, 197, 198, 199, 201, 202, 203, 331, 332, 214, 215, 216, 218, 219, 220, 222, 223, 224, 225, 227, 228, 229, 230, 231, 232, 234, 235, 236, 238, 239, 240, 241, 334, 335, 243, 244, 245, 247, 248, 249, 251, 252, 253, 337, 338, 339, 262, 263, 264, 266, 267, 169, 170, 171, 173, 174, 175, 177, 178, 180, 181, 182, 150, 151, 152, 154, 155, 184, 185, 186, 163, 164, 165, 167, 168, 348, 349, 350, 351, 352, 353, 354, 355, 356, 357, 358, 359, 360, 361, 362, 363, 364, 365, 369, 370, 366, 367, 368] rfl (by decide +kernel) (by decide +kernel)
set_option maxRecDepth 20000 in
theorem gL_law_L_act : GoodIn wsL_law (va_wsS RL 122 yL_act wsL_act) := goodIn_app (goodIn_of _ (by decide +kernel)) ggL_law_L_act
set_option maxRecDepth 20000 in
theorem ggL_law_L_isWhole : GoodIn wsL_law wsL_isWhole := goodIn_q _ [343, 98, 110, 114, 119, 94, 132, 141, 153, 156, 145, 149, 347, 72, 265, 213, 250, 195, 200, 204, 221, 226, 233, 237, 90, 242] [327, 3, 95, 96, 97, 2, 13, 99, 100, 101, 102, 82, 103, 104, 105, 23, 106, 18, 59, 81, 107, 108, 109, 12, 33, 34, 111, 112, 113, 39, 28, 115, 116, 117, 118, 35, 92, 93, 129, 130, 131, 133, 134, 135, 136, 137, 138, 139, 140, 150, 151, 152, 154, 155, 142, 143, 144, 146, 147, 148, 32, 344, 345, 346, 60, 14, 91, 70, 71, 73, 74, 75, 76, 29, 30, 31, 36, 37, 38, 40, 41, 262, 263, 264, 266, 211, 212, 205, 267, 248, 249, 196, 251, 193, 194, 252, 198, 199, 201, 202, 203, 253, 219, 220, 222, 223, 224, 225, 227, 228, 229, 230, 231, 232, 234, 235, 236, 238, 88, 89, 239, 240, 241, 348, 349, 350, 351, 352, 353, 354, 355, 356, 357, 358, 359, 360, 361, 362, 363, 364, 365, 369, 370, 366, 367, 368] rfl (by decide +kernel) (by decide +kernel)
set_option maxRecDepth 20000 in
theorem gL_law_L_isWhole : GoodIn wsL_law (va_wsS RL 124 yL_isWhole wsL_isWhole) := goodIn_app (goodIn_of _ (by decide +kernel)) ggL_law_L_isWhole
theorem dL_law_0 : decode cL_law 0 = .ok (.new 14, 3) := by decide +kernel
theorem dL_law_3 : decode cL_law 3 = .ok (.dup, 1) := by decide +kernel
theorem dL_law_4 : decode cL_law 4 = .ok (.invokespecial 111, 3) := by decide +kernel
theorem dL_law_7 : decode cL_law 7 = .ok (.astore_n 1, 1) := by decide +kernel
theorem dL_law_8 : decode cL_law 8 = .ok (.aload_n 1, 1) := by decide +kernel
theorem dL_law_9 : decode cL_law 9 = .ok (.invokevirtual 112, 3) := by decide +kernel
theorem dL_law_12 : decode cL_law 12 = .ok (.ldc 36, 2) := by decide +kernel
theorem dL_law_14 : decode cL_law 14 = .ok (.if_icmp .ne 75, 3) := by decide +kernel
theorem dL_law_17 : decode cL_law 17 = .ok (.aload_n 1, 1) := by decide +kernel
theorem dL_law_18 : decode cL_law 18 = .ok (.iconst 0, 1) := by decide +kernel
theorem dL_law_19 : decode cL_law 19 = .ok (.invokevirtual 78, 3) := by decide +kernel
theorem dL_law_22 : decode cL_law 22 = .ok (.ldc 36, 2) := by decide +kernel
theorem dL_law_24 : decode cL_law 24 = .ok (.if_icmp .ne 65, 3) := by decide +kernel
theorem dL_law_27 : decode cL_law 27 = .ok (.aload_n 1, 1) := by decide +kernel
theorem dL_law_28 : decode cL_law 28 = .ok (.iconst 1, 1) := by decide +kernel
theorem dL_law_29 : decode cL_law 29 = .ok (.invokevirtual 78, 3) := by decide +kernel
theorem dL_law_32 : decode cL_law 32 = .ok (.ldc 36, 2) := by decide +kernel
theorem dL_law_34 : decode cL_law 34 = .ok (.if_icmp .ne 55, 3) := by decide +kernel
theorem dL_law_37 : decode cL_law 37 = .ok (.aload_n 1, 1) := by decide +kernel
theorem dL_law_38 : decode cL_law 38 = .ok (.bipush 10, 2) := by decide +kernel
theorem dL_law_40 : decode cL_law 40 = .ok (.invokevirtual 13, 3) := by decide +kernel
theorem dL_law_43 : decode cL_law 43 = .ok (.bipush 100, 2) := by decide +kernel
theorem dL_law_45 : decode cL_law 45 = .ok (.if_icmp .ne 44, 3) := by decide +kernel
theorem dL_law_48 : decode cL_law 48 = .ok (.aload_n 1, 1) := by decide +kernel
theorem dL_law_49 : decode cL_law 49 = .ok (.bipush 13, 2) := by decide +kernel
theorem dL_law_51 : decode cL_law 51 = .ok (.invokevirtual 13, 3) := by decide +kernel
theorem dL_law_54 : decode cL_law 54 = .ok (.bipush 15, 2) := by decide +kernel
theorem dL_law_56 : decode cL_law 56 = .ok (.if_icmp .ne 33, 3) := by decide +kernel
theorem dL_law_59 : decode cL_law 59 = .ok (.aload_n 1, 1) := by decide +kernel
theorem dL_law_60 : decode cL_law 60 = .ok (.iconst 0, 1) := by decide +kernel
theorem dL_law_61 : decode cL_law 61 = .ok (.invokestatic 115, 3) := by decide +kernel
theorem dL_law_64 : decode cL_law 64 = .ok (.ifCond .eq 25, 3) := by decide +kernel
theorem dL_law_67 : decode cL_law 67 = .ok (.aload_n 1, 1) := by decide +kernel
theorem dL_law_68 : decode cL_law 68 = .ok (.iconst 1, 1) := by decide +kernel
theorem dL_law_69 : decode cL_law 69 = .ok (.invokestatic 115, 3) := by decide +kernel
theorem dL_law_72 : decode cL_law 72 = .ok (.ifCond .eq 17, 3) := by decide +kernel
theorem dL_law_75 : decode cL_law 75 = .ok (.aload_n 1, 1) := by decide +kernel
theorem dL_law_76 : decode cL_law 76 = .ok (.iconst 1, 1) := by decide +kernel
theorem dL_law_77 : decode cL_law 77 = .ok (.invokevirtual 75, 3) := by decide +kernel
theorem dL_law_80 : decode cL_law 80 = .ok (.bipush 100, 2) := by decide +kernel
theorem dL_law_82 : decode cL_law 82 = .ok (.if_icmp .ne 7, 3) := by decide +kernel
theorem dL_law_85 : decode cL_law 85 = .ok (.iconst 1, 1) := by decide +kernel
theorem dL_law_86 : decode cL_law 86 = .ok (.goto 4, 3) := by decide +kernel
theorem dL_law_89 : decode cL_law 89 = .ok (.iconst 0, 1) := by decide +kernel
theorem dL_law_90 : decode cL_law 90 = .ok (.istore_n 2, 1) := by decide +kernel
theorem dL_law_91 : decode cL_law 91 = .ok (.iconst 0, 1) := by decide +kernel
theorem dL_law_92 : decode cL_law 92 = .ok (.istore_n 3, 1) := by decide +kernel
theorem dL_law_93 : decode cL_law 93 = .ok (.iload_n 3, 1) := by decide +kernel
theorem dL_law_94 : decode cL_law 94 = .ok (.bipush 70, 2) := by decide +kernel
theorem dL_law_96 : decode cL_law 96 = .ok (.if_icmp .ge 234, 3) := by decide +kernel
theorem dL_law_99 : decode cL_law 99 = .ok (.iload_n 2, 1) := by decide +kernel
theorem dL_law_100 : decode cL_law 100 = .ok (.ifCond .eq 230, 3) := by decide +kernel
theorem dL_law_103 : decode cL_law 103 = .ok (.aload_n 0, 1) := by decide +kernel
theorem dL_law_104 : decode cL_law 104 = .ok (.iload_n 3, 1) := by decide +kernel
theorem dL_law_105 : decode cL_law 105 = .ok (.invokestatic 118, 3) := by decide +kernel
theorem dL_law_108 : decode cL_law 108 = .ok (.istore 4, 2) := by decide +kernel
theorem dL_law_110 : decode cL_law 110 = .ok (.aload_n 1, 1) := by decide +kernel
theorem dL_law_111 : decode cL_law 111 = .ok (.invokestatic 91, 3) := by decide +kernel
theorem dL_law_114 : decode cL_law 114 = .ok (.lstore 5, 2) := by decide +kernel
theorem dL_law_116 : decode cL_law 116 = .ok (.aload_n 1, 1) := by decide +kernel
theorem dL_law_117 : decode cL_law 117 = .ok (.bipush 15, 2) := by decide +kernel
theorem dL_law_119 : decode cL_law 119 = .ok (.invokevirtual 13, 3) := by decide +kernel
theorem dL_law_122 : decode cL_law 122 = .ok (.istore 7, 2) := by decide +kernel
theorem dL_law_124 : decode cL_law 124 = .ok (.aload_n 1, 1) := by decide +kernel
theorem dL_law_125 : decode cL_law 125 = .ok (.iload 4, 2) := by decide +kernel
theorem dL_law_127 : decode cL_law 127 = .ok (.invokestatic 122, 3) := by decide +kernel
theorem dL_law_130 : decode cL_law 130 = .ok (.istore 8, 2) := by decide +kernel
theorem dL_law_132 : decode cL_law 132 = .ok (.aload_n 1, 1) := by decide +kernel
theorem dL_law_133 : decode cL_law 133 = .ok (.bipush 15, 2) := by decide +kernel
theorem dL_law_135 : decode cL_law 135 = .ok (.invokevirtual 13, 3) := by decide +kernel
theorem dL_law_138 : decode cL_law 138 = .ok (.istore 9, 2) := by decide +kernel
theorem dL_law_140 : decode cL_law 140 = .ok (.iload 8, 2) := by decide +kernel
theorem dL_law_142 : decode cL_law 142 = .ok (.ifCond .lt 80, 3) := by decide +kernel
theorem dL_law_145 : decode cL_law 145 = .ok (.iload 8, 2) := by decide +kernel
theorem dL_law_147 : decode cL_law 147 = .ok (.ifCond .ne 23, 3) := by decide +kernel
theorem dL_law_150 : decode cL_law 150 = .ok (.iload 9, 2) := by decide +kernel
theorem dL_law_152 : decode cL_law 152 = .ok (.iload 7, 2) := by decide +kernel
theorem dL_law_154 : decode cL_law 154 = .ok (.if_icmp .ne 68, 3) := by decide +kernel
theorem dL_law_157 : decode cL_law 157 = .ok (.aload_n 1, 1) := by decide +kernel
theorem dL_law_158 : decode cL_law 158 = .ok (.invokestatic 91, 3) := by decide +kernel
theorem dL_law_161 : decode cL_law 161 = .ok (.lload 5, 2) := by decide +kernel
theorem dL_law_163 : decode cL_law 163 = .ok (.lcmp, 1) := by decide +kernel
theorem dL_law_164 : decode cL_law 164 = .ok (.ifCond .ne 58, 3) := by decide +kernel
theorem dL_law_167 : decode cL_law 167 = .ok (.goto 24, 3) := by decide +kernel
theorem dL_law_170 : decode cL_law 170 = .ok (.iload 9, 2) := by decide +kernel
theorem dL_law_172 : decode cL_law 172 = .ok (.iload 7, 2) := by decide +kernel
theorem dL_law_174 : decode cL_law 174 = .ok (.bipush 6, 2) := by decide +kernel
theorem dL_law_176 : decode cL_law 176 = .ok (.if_icmp .ge 10, 3) := by decide +kernel
theorem dL_law_179 : decode cL_law 179 = .ok (.iload 7, 2) := by decide +kernel
theorem dL_law_181 : decode cL_law 181 = .ok (.iconst 1, 1) := by decide +kernel
theorem dL_law_182 : decode cL_law 182 = .ok (.iadd, 1) := by decide +kernel
theorem dL_law_183 : decode cL_law 183 = .ok (.goto 5, 3) := by decide +kernel
theorem dL_law_186 : decode cL_law 186 = .ok (.bipush 6, 2) := by decide +kernel
theorem dL_law_188 : decode cL_law 188 = .ok (.if_icmp .ne 34, 3) := by decide +kernel
theorem dL_law_191 : decode cL_law 191 = .ok (.aload_n 1, 1) := by decide +kernel
theorem dL_law_192 : decode cL_law 192 = .ok (.invokestatic 124, 3) := by decide +kernel
theorem dL_law_195 : decode cL_law 195 = .ok (.ifCond .eq 27, 3) := by decide +kernel
theorem dL_law_198 : decode cL_law 198 = .ok (.iload_n 3, 1) := by decide +kernel
theorem dL_law_199 : decode cL_law 199 = .ok (.bipush 6, 2) := by decide +kernel
theorem dL_law_201 : decode cL_law 201 = .ok (.irem, 1) := by decide +kernel
theorem dL_law_202 : decode cL_law 202 = .ok (.iconst 5, 1) := by decide +kernel
theorem dL_law_203 : decode cL_law 203 = .ok (.if_icmp .ne 15, 3) := by decide +kernel
theorem dL_law_206 : decode cL_law 206 = .ok (.aload_n 1, 1) := by decide +kernel
theorem dL_law_207 : decode cL_law 207 = .ok (.iload 4, 2) := by decide +kernel
theorem dL_law_209 : decode cL_law 209 = .ok (.bipush 6, 2) := by decide +kernel
theorem dL_law_211 : decode cL_law 211 = .ok (.idiv, 1) := by decide +kernel
theorem dL_law_212 : decode cL_law 212 = .ok (.invokestatic 115, 3) := by decide +kernel
theorem dL_law_215 : decode cL_law 215 = .ok (.ifCond .eq 7, 3) := by decide +kernel
theorem dL_law_218 : decode cL_law 218 = .ok (.iconst 1, 1) := by decide +kernel
theorem dL_law_219 : decode cL_law 219 = .ok (.goto 4, 3) := by decide +kernel
theorem dL_law_222 : decode cL_law 222 = .ok (.iconst 0, 1) := by decide +kernel
theorem dL_law_223 : decode cL_law 223 = .ok (.istore_n 2, 1) := by decide +kernel
theorem dL_law_224 : decode cL_law 224 = .ok (.iload_n 2, 1) := by decide +kernel
theorem dL_law_225 : decode cL_law 225 = .ok (.ifCond .eq 99, 3) := by decide +kernel
theorem dL_law_228 : decode cL_law 228 = .ok (.iload 8, 2) := by decide +kernel
theorem dL_law_230 : decode cL_law 230 = .ok (.iconst 1, 1) := by decide +kernel
theorem dL_law_231 : decode cL_law 231 = .ok (.if_icmp .ne 93, 3) := by decide +kernel
theorem dL_law_234 : decode cL_law 234 = .ok (.iload 4, 2) := by decide +kernel
theorem dL_law_236 : decode cL_law 236 = .ok (.bipush 17, 2) := by decide +kernel
theorem dL_law_238 : decode cL_law 238 = .ok (.idiv, 1) := by decide +kernel
theorem dL_law_239 : decode cL_law 239 = .ok (.iconst 4, 1) := by decide +kernel
theorem dL_law_240 : decode cL_law 240 = .ok (.irem, 1) := by decide +kernel
theorem dL_law_241 : decode cL_law 241 = .ok (.ifCond .ne 83, 3) := by decide +kernel
theorem dL_law_244 : decode cL_law 244 = .ok (.aload_n 1, 1) := by decide +kernel
theorem dL_law_245 : decode cL_law 245 = .ok (.invokestatic 91, 3) := by decide +kernel
theorem dL_law_248 : decode cL_law 248 = .ok (.lstore 10, 2) := by decide +kernel
theorem dL_law_250 : decode cL_law 250 = .ok (.aload_n 1, 1) := by decide +kernel
theorem dL_law_251 : decode cL_law 251 = .ok (.bipush 10, 2) := by decide +kernel
theorem dL_law_253 : decode cL_law 253 = .ok (.invokevirtual 13, 3) := by decide +kernel
theorem dL_law_256 : decode cL_law 256 = .ok (.istore 12, 2) := by decide +kernel
theorem dL_law_258 : decode cL_law 258 = .ok (.aload_n 1, 1) := by decide +kernel
theorem dL_law_259 : decode cL_law 259 = .ok (.iconst 0, 1) := by decide +kernel
theorem dL_law_260 : decode cL_law 260 = .ok (.invokevirtual 75, 3) := by decide +kernel
theorem dL_law_263 : decode cL_law 263 = .ok (.iload 12, 2) := by decide +kernel
theorem dL_law_265 : decode cL_law 265 = .ok (.if_icmp .ne 57, 3) := by decide +kernel
theorem dL_law_268 : decode cL_law 268 = .ok (.aload_n 1, 1) := by decide +kernel
theorem dL_law_269 : decode cL_law 269 = .ok (.invokevirtual 112, 3) := by decide +kernel
theorem dL_law_272 : decode cL_law 272 = .ok (.iload 7, 2) := by decide +kernel
theorem dL_law_274 : decode cL_law 274 = .ok (.bipush 6, 2) := by decide +kernel
theorem dL_law_276 : decode cL_law 276 = .ok (.if_icmp .ge 8, 3) := by decide +kernel
theorem dL_law_279 : decode cL_law 279 = .ok (.iload 7, 2) := by decide +kernel
theorem dL_law_281 : decode cL_law 281 = .ok (.goto 4, 3) := by decide +kernel
theorem dL_law_284 : decode cL_law 284 = .ok (.iconst 5, 1) := by decide +kernel
theorem dL_law_285 : decode cL_law 285 = .ok (.if_icmp .ne 37, 3) := by decide +kernel
theorem dL_law_288 : decode cL_law 288 = .ok (.aload_n 1, 1) := by decide +kernel
theorem dL_law_289 : decode cL_law 289 = .ok (.invokestatic 91, 3) := by decide +kernel
theorem dL_law_292 : decode cL_law 292 = .ok (.lload 5, 2) := by decide +kernel
theorem dL_law_294 : decode cL_law 294 = .ok (.lcmp, 1) := by decide +kernel
theorem dL_law_295 : decode cL_law 295 = .ok (.ifCond .ne 27, 3) := by decide +kernel
theorem dL_law_298 : decode cL_law 298 = .ok (.aload_n 1, 1) := by decide +kernel
theorem dL_law_299 : decode cL_law 299 = .ok (.iconst 0, 1) := by decide +kernel
theorem dL_law_300 : decode cL_law 300 = .ok (.invokevirtual 78, 3) := by decide +kernel
theorem dL_law_303 : decode cL_law 303 = .ok (.iload 12, 2) := by decide +kernel
theorem dL_law_305 : decode cL_law 305 = .ok (.if_icmp .ne 17, 3) := by decide +kernel
theorem dL_law_308 : decode cL_law 308 = .ok (.aload_n 1, 1) := by decide +kernel
theorem dL_law_309 : decode cL_law 309 = .ok (.invokestatic 91, 3) := by decide +kernel
theorem dL_law_312 : decode cL_law 312 = .ok (.lload 10, 2) := by decide +kernel
theorem dL_law_314 : decode cL_law 314 = .ok (.lcmp, 1) := by decide +kernel
theorem dL_law_315 : decode cL_law 315 = .ok (.ifCond .ne 7, 3) := by decide +kernel
theorem dL_law_318 : decode cL_law 318 = .ok (.iconst 1, 1) := by decide +kernel
theorem dL_law_319 : decode cL_law 319 = .ok (.goto 4, 3) := by decide +kernel
theorem dL_law_322 : decode cL_law 322 = .ok (.iconst 0, 1) := by decide +kernel
theorem dL_law_323 : decode cL_law 323 = .ok (.istore_n 2, 1) := by decide +kernel
theorem dL_law_324 : decode cL_law 324 = .ok (.iinc 3 1, 3) := by decide +kernel
theorem dL_law_327 : decode cL_law 327 = .ok (.goto (-234), 3) := by decide +kernel
theorem dL_law_330 : decode cL_law 330 = .ok (.iload_n 2, 1) := by decide +kernel
theorem dL_law_331 : decode cL_law 331 = .ok (.ifCond .eq 40, 3) := by decide +kernel
theorem dL_law_334 : decode cL_law 334 = .ok (.aload_n 1, 1) := by decide +kernel
theorem dL_law_335 : decode cL_law 335 = .ok (.iconst 1, 1) := by decide +kernel
theorem dL_law_336 : decode cL_law 336 = .ok (.invokevirtual 78, 3) := by decide +kernel
theorem dL_law_339 : decode cL_law 339 = .ok (.bipush 100, 2) := by decide +kernel
theorem dL_law_341 : decode cL_law 341 = .ok (.if_icmp .ne 30, 3) := by decide +kernel
theorem dL_law_344 : decode cL_law 344 = .ok (.aload_n 1, 1) := by decide +kernel
theorem dL_law_345 : decode cL_law 345 = .ok (.bipush 9, 2) := by decide +kernel
theorem dL_law_347 : decode cL_law 347 = .ok (.invokevirtual 13, 3) := by decide +kernel
theorem dL_law_350 : decode cL_law 350 = .ok (.ifCond .ne 21, 3) := by decide +kernel
theorem dL_law_353 : decode cL_law 353 = .ok (.aload_n 1, 1) := by decide +kernel
theorem dL_law_354 : decode cL_law 354 = .ok (.invokevirtual 112, 3) := by decide +kernel
theorem dL_law_357 : decode cL_law 357 = .ok (.ifCond .lt 14, 3) := by decide +kernel
theorem dL_law_360 : decode cL_law 360 = .ok (.aload_n 1, 1) := by decide +kernel
theorem dL_law_361 : decode cL_law 361 = .ok (.invokestatic 124, 3) := by decide +kernel
theorem dL_law_364 : decode cL_law 364 = .ok (.ifCond .eq 7, 3) := by decide +kernel
theorem dL_law_367 : decode cL_law 367 = .ok (.iconst 1, 1) := by decide +kernel
theorem dL_law_368 : decode cL_law 368 = .ok (.goto 4, 3) := by decide +kernel
theorem dL_law_371 : decode cL_law 371 = .ok (.iconst 0, 1) := by decide +kernel
theorem dL_law_372 : decode cL_law 372 = .ok (.ireturn, 1) := by decide +kernel
