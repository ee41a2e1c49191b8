set_option maxRecDepth 20000 in
theorem ggL_refusesAny_X3_count : GoodIn wsL_refusesAny wsX3_count := goodIn_r _ [9, 10, 11, 12, 13, 14, 15, 16, 17, 18, 19, 20, 21, 22, 23, 24, 25, 26, 27, 28, 29, 30, 31, 32, 33, 34, 35, 36, 37, 38, 39, 40, 41, 42, 43, 44, 8, 45, 283, 284, 285, 286, 287, 288, 289, 290, 291, 292, 293, 294, 295, 296, 297, 298, 299, 300, 301, 302, 303, 304, 305] (by decide +kernel) (by decide +kernel)
set_option maxRecDepth 20000 in
theorem gL_refusesAny_X3_count : GoodIn wsL_refusesAny (wsV RL 13 RX3 yX3_count wsX3_count) := goodIn_app (goodIn_of _ (by decide +kernel)) ggL_refusesAny_X3_count
set_option maxRecDepth 20000 in
theorem ggL_refusesAny_X3_set : GoodIn wsL_refusesAny wsX3_set := goodIn_r _ [49, 23, 50, 51, 21, 10, 11, 52, 53, 54, 55, 56, 57, 58, 59, 60, 27, 61, 62, 63, 64, 65, 66, 67, 68, 69, 70, 71, 72, 73, 74, 75, 36, 76, 77, 78, 79, 29, 30, 42, 80, 81, 82, 35, 83, 84, 85, 86, 87, 88, 89, 90, 91, 92, 283, 284, 285, 286, 287, 288, 289, 290, 291, 292, 293, 294, 295, 296, 297, 298, 299, 300, 303, 304, 305] (by decide +kernel) (by decide +kernel)
set_option maxRecDepth 20000 in
theorem gL_refusesAny_X3_set : GoodIn wsL_refusesAny (wsV RL 37 RX3 yX3_set wsX3_set) := goodIn_app (goodIn_of _ (by decide +kernel)) ggL_refusesAny_X3_set
set_option maxRecDepth 20000 in
theorem ggL_refusesAny_X3_coins : GoodIn wsL_refusesAny wsX3_coins := goodIn_r _ [96, 97, 23, 10, 98, 21, 15, 99, 100, 8, 101, 102, 103, 104, 27, 105, 42, 29, 30, 106, 107, 64, 108, 52, 53, 54, 55, 56, 57, 58, 59, 60, 61, 62, 63, 65, 66, 67, 68, 69, 70, 71, 72, 73, 74, 75, 36, 76, 77, 78, 79, 80, 81, 82, 35, 83, 84, 85, 86, 87, 88, 89, 90, 91, 92, 283, 284, 285, 286, 287, 288, 289, 290, 291, 292, 293, 294, 295, 296, 297, 298, 299, 300, 303, 304, 305] (by decide +kernel) (by decide +kernel)
set_option maxRecDepth 20000 in
theorem gL_refusesAny_X3_coins : GoodIn wsL_refusesAny (wsV RL 41 RX3 yX3_coins wsX3_coins) := goodIn_app (goodIn_of _ (by decide +kernel)) ggL_refusesAny_X3_coins
set_option maxRecDepth 20000 in
theorem ggL_refusesAny_X3_limit : GoodIn wsL_refusesAny wsX3_limit := goodIn_r _ [112, 97, 23, 21, 10, 113, 99, 100, 8, 101, 52, 53, 54, 55, 56, 57, 58, 59, 60, 27, 61, 62, 63, 64, 65, 66, 67, 68, 69, 70, 71, 72, 73, 74, 75, 36, 76, 77, 78, 79, 29, 30, 42, 80, 81, 82, 35, 83, 84, 85, 86, 87, 88, 89, 90, 91, 92, 283, 284, 285, 286, 287, 288, 289, 290, 291, 292, 293, 294, 295, 296, 297, 298, 299, 300, 303, 304, 305] (by decide +kernel) (by decide +kernel)
set_option maxRecDepth 20000 in
theorem gL_refusesAny_X3_limit : GoodIn wsL_refusesAny (wsV RL 45 RX3 yX3_limit wsX3_limit) := goodIn_app (goodIn_of _ (by decide +kernel)) ggL_refusesAny_X3_limit
set_option maxRecDepth 20000 in
theorem ggL_refusesAny_X3_prize : GoodIn wsL_refusesAny wsX3_prize := goodIn_r _ [117, 97, 23, 21, 10, 18, 118, 119, 8, 120, 52, 53, 54, 55, 56, 57, 58, 59, 60, 27, 61, 62, 63, 64, 65, 66, 67, 68, 69, 70, 71, 72, 73, 74, 75, 36, 76, 77, 78, 79, 29, 30, 42, 80, 81, 82, 35, 83, 84, 85, 86, 87, 88, 89, 90, 91, 92, 283, 284, 285, 286, 287, 288, 289, 290, 291, 292, 293, 294, 295, 296, 297, 298, 299, 300, 303, 304, 305] (by decide +kernel) (by decide +kernel)
set_option maxRecDepth 20000 in
theorem gL_refusesAny_X3_prize : GoodIn wsL_refusesAny (wsV RL 48 RX3 yX3_prize wsX3_prize) := goodIn_app (goodIn_of _ (by decide +kernel)) ggL_refusesAny_X3_prize
set_option maxRecDepth 20000 in
theorem ggL_refusesAny_X3_bid : GoodIn wsL_refusesAny wsX3_bid := goodIn_r _ [124, 23, 10, 98, 21, 125, 126, 127, 27, 128, 35, 83, 77, 100, 8, 101, 129, 32, 33, 34, 29, 36, 37, 25, 26, 28, 30, 52, 53, 54, 55, 56, 57, 58, 59, 60, 61, 62, 63, 64, 65, 66, 67, 68, 69, 70, 71, 72, 73, 74, 75, 76, 78, 79, 42, 80, 81, 82, 84, 85, 86, 87, 88, 89, 90, 91, 92, 130, 131, 132, 133, 134, 135, 136, 137, 138, 139, 140, 141, 283, 284, 285, 286, 287, 288, 289, 290, 291, 292, 293, 294, 295, 296, 297, 298, 299, 300, 303, 304, 305] (by decide +kernel) (by decide +kernel)
set_option maxRecDepth 20000 in
theorem gL_refusesAny_X3_bid : GoodIn wsL_refusesAny (wsV RL 51 RX3 yX3_bid wsX3_bid) := goodIn_app (goodIn_of _ (by decide +kernel)) ggL_refusesAny_X3_bid
set_option maxRecDepth 20000 in
theorem ggL_refusesAny_X3_begin : GoodIn wsL_refusesAny wsX3_begin := goodIn_r _ [145, 10, 12, 98, 21, 52, 53, 54, 55, 56, 57, 58, 59, 60, 27, 61, 62, 63, 64, 65, 66, 67, 68, 69, 70, 71, 72, 73, 74, 75, 36, 76, 77, 78, 79, 29, 30, 42, 80, 81, 82, 35, 83, 84, 85, 86, 87, 88, 89, 90, 91, 92, 146, 147, 148, 149, 138, 139, 140, 141, 283, 284, 285, 286, 287, 288, 289, 290, 291, 292, 293, 294, 295, 296, 297, 298, 299, 300, 303, 304, 305] (by decide +kernel) (by decide +kernel)
set_option maxRecDepth 20000 in
theorem gL_refusesAny_X3_begin : GoodIn wsL_refusesAny (wsV RL 54 RX3 yX3_begin wsX3_begin) := goodIn_app (goodIn_of _ (by decide +kernel)) ggL_refusesAny_X3_begin
set_option maxRecDepth 20000 in
theorem ggL_refusesAny_X3_player : GoodIn wsL_refusesAny wsX3_player := goodIn_r _ [153, 97, 10, 15, 113, 154, 155, 156, 16, 17, 157, 23, 99, 100, 8, 101, 283, 284, 285, 286, 287, 288, 289, 290, 291, 292, 293, 294, 295, 296, 297, 298, 299, 300] (by decide +kernel) (by decide +kernel)
set_option maxRecDepth 20000 in
theorem gL_refusesAny_X3_player : GoodIn wsL_refusesAny (wsV RL 19 RX3 yX3_player wsX3_player) := goodIn_app (goodIn_of _ (by decide +kernel)) ggL_refusesAny_X3_player
set_option maxRecDepth 20000 in
theorem ggL_refusesAny_X3_drop : GoodIn wsL_refusesAny wsX3_drop := goodIn_r _ [161, 10, 12, 98, 21, 52, 53, 54, 55, 56, 57, 58, 59, 60, 27, 61, 62, 63, 64, 65, 66, 67, 68, 69, 70, 71, 72, 73, 74, 75, 36, 76, 77, 78, 79, 29, 30, 42, 80, 81, 82, 35, 83, 84, 85, 86, 87, 88, 89, 90, 91, 92, 162, 163, 164, 165, 100, 8, 101, 166, 39, 40, 41, 167, 168, 169, 170, 171, 172, 173, 174, 175, 176, 177, 178, 179, 180, 181, 182, 183, 184, 185, 186, 134, 135, 136, 137, 138, 139, 140, 141, 283, 284, 285, 286, 287, 288, 289, 290, 291, 292, 293, 294, 295, 296, 297, 298, 299, 300, 303, 304, 305] (by decide +kernel) (by decide +kernel)
set_option maxRecDepth 20000 in
theorem gL_refusesAny_X3_drop : GoodIn wsL_refusesAny (wsV RL 57 RX3 yX3_drop wsX3_drop) := goodIn_app (goodIn_of _ (by decide +kernel)) ggL_refusesAny_X3_drop
set_option maxRecDepth 20000 in
theorem ggL_refusesAny_X3_act : GoodIn wsL_refusesAny wsX3_act := goodIn_r _ [190, 10, 12, 98, 21, 52, 53, 54, 55, 56, 57, 58, 59, 60, 27, 61, 62, 63, 64, 65, 66, 67, 68, 69, 70, 71, 72, 73, 74, 75, 36, 76, 77, 78, 79, 29, 30, 42, 80, 81, 82, 35, 83, 84, 85, 86, 87, 88, 89, 90, 91, 92, 191, 192, 193, 194, 129, 32, 33, 34, 37, 25, 26, 28, 100, 8, 101, 195, 126, 127, 128, 196, 131, 132, 133, 134, 135, 136, 137, 138, 139, 140, 141, 197, 163, 164, 165, 166, 39, 40, 41, 167, 168, 169, 170, 171, 172, 173, 174, 175, 176, 177, 178, 179, 180, 181, 182, 183, 184, 185, 186, 283, 284, 285, 286, 287, 288, 289, 290, 291, 292, 293, 294, 295, 296, 297, 298, 299, 300, 303, 304, 305] (by decide +kernel) (by decide +kernel)
set_option maxRecDepth 20000 in
theorem gL_refusesAny_X3_act : GoodIn wsL_refusesAny (wsV RL 60 RX3 yX3_act wsX3_act) := goodIn_app (goodIn_of _ (by decide +kernel)) ggL_refusesAny_X3_act
set_option maxRecDepth 20000 in
theorem ggL_refusesAny_X3_at : GoodIn wsL_refusesAny wsX3_at := goodIn_r _ [201, 97, 10, 202, 139, 140, 27, 141, 79, 29, 283, 284, 285, 286, 287, 288, 289, 290, 291, 292, 293, 294, 295, 296, 297, 298, 299, 300] (by decide +kernel) (by decide +kernel)
set_option maxRecDepth 20000 in
theorem gL_refusesAny_X3_at : GoodIn wsL_refusesAny (wsV RL 23 RX3 yX3_at wsX3_at) := goodIn_app (goodIn_of _ (by decide +kernel)) ggL_refusesAny_X3_at
set_option maxRecDepth 20000 in
theorem ggL_refusesAny_X3_prizeOf : GoodIn wsL_refusesAny wsX3_prizeOf := goodIn_r _ [206, 97, 10, 18, 118, 119, 8, 120, 283, 284, 285, 286, 287, 288, 289, 290, 291, 292, 293, 294, 295, 296, 297, 298, 299, 300] (by decide +kernel) (by decide +kernel)
set_option maxRecDepth 20000 in
theorem gL_refusesAny_X3_prizeOf : GoodIn wsL_refusesAny (wsV RL 26 RX3 yX3_prizeOf wsX3_prizeOf) := goodIn_app (goodIn_of _ (by decide +kernel)) ggL_refusesAny_X3_prizeOf
set_option maxRecDepth 20000 in
theorem ggL_refusesAny_X3_ifFinished : GoodIn wsL_refusesAny wsX3_ifFinished := goodIn_r _ [210, 97, 23, 211, 154, 16, 10, 17, 15, 99, 100, 8, 101, 212, 213, 214, 215, 216, 86, 87, 27, 88, 36, 89, 90, 91, 92, 76, 77, 78, 79, 30, 42, 80, 81, 82, 35, 83, 84, 217, 218, 219, 220, 221, 147, 148, 149, 138, 139, 140, 141, 29, 222, 192, 193, 194, 129, 32, 33, 34, 37, 25, 26, 28, 195, 126, 127, 128, 196, 131, 132, 133, 134, 135, 136, 137, 197, 163, 164, 165, 166, 39, 40, 41, 167, 168, 169, 170, 171, 172, 173, 174, 175, 176, 177, 178, 179, 180, 181, 182, 63, 64, 65, 183, 184, 185, 186, 283, 284, 285, 286, 287, 288, 289, 290, 291, 292, 293, 294, 295, 296, 297, 298, 299, 300] (by decide +kernel) (by decide +kernel)
set_option maxRecDepth 20000 in
theorem gL_refusesAny_X3_ifFinished : GoodIn wsL_refusesAny (wsV RL 63 RX3 yX3_ifFinished wsX3_ifFinished) := goodIn_app (goodIn_of _ (by decide +kernel)) ggL_refusesAny_X3_ifFinished
set_option maxRecDepth 20000 in
theorem ggL_refusesAny_X3_bestLimit : GoodIn wsL_refusesAny wsX3_bestLimit := goodIn_r _ [226, 97, 23, 227, 211, 10, 113, 15, 99, 100, 8, 101, 216, 86, 87, 27, 88, 36, 89, 90, 91, 92, 76, 77, 78, 79, 30, 42, 80, 81, 82, 35, 83, 84, 217, 218, 219, 220, 221, 147, 148, 149, 138, 139, 140, 141, 29, 222, 192, 193, 194, 129, 32, 33, 34, 37, 25, 26, 28, 195, 126, 127, 128, 196, 131, 132, 133, 134, 135, 136, 137, 197, 163, 164, 165, 166, 39, 40, 41, 167, 168, 169, 170, 171, 172, 173, 174, 175, 176, 177, 178, 179, 180, 181, 182, 63, 64, 65, 183, 184, 185, 186, 283, 284, 285, 286, 287, 288, 289, 290, 291, 292, 293, 294, 295, 296, 297, 298, 299, 300] (by decide +kernel) (by decide +kernel)
set_option maxRecDepth 20000 in
theorem gL_refusesAny_X3_bestLimit : GoodIn wsL_refusesAny (wsV RL 66 RX3 yX3_bestLimit wsX3_bestLimit) := goodIn_app (goodIn_of _ (by decide +kernel)) ggL_refusesAny_X3_bestLimit
set_option maxRecDepth 20000 in
theorem ggL_refusesAny_X3_coinsBehind : GoodIn wsL_refusesAny wsX3_coinsBehind := goodIn_r _ [231, 97, 23, 211, 15, 99, 100, 8, 101, 212, 213, 214, 215, 10, 216, 86, 87, 27, 88, 36, 89, 90, 91, 92, 76, 77, 78, 79, 30, 42, 80, 81, 82, 35, 83, 84, 217, 218, 219, 220, 221, 147, 148, 149, 138, 139, 140, 141, 29, 222, 192, 193, 194, 129, 32, 33, 34, 37, 25, 26, 28, 195, 126, 127, 128, 196, 131, 132, 133, 134, 135, 136, 137, 197, 163, 164, 165, 166, 39, 40, 41, 167, 168, 169, 170, 171, 172, 173, 174, 175, 176, 177, 178, 179, 180, 181, 182, 63, 64, 65, 183, 184, 185, 186, 283, 284, 285, 286, 287, 288, 289, 290, 291, 292, 293, 294, 295, 296, 297, 298, 299, 300] (by decide +kernel) (by decide +kernel)
set_option maxRecDepth 20000 in
theorem gL_refusesAny_X3_coinsBehind : GoodIn wsL_refusesAny (wsV RL 69 RX3 yX3_coinsBehind wsX3_coinsBehind) := goodIn_app (goodIn_of _ (by decide +kernel)) ggL_refusesAny_X3_coinsBehind
set_option maxRecDepth 20000 in
theorem ggL_refusesAny_X3_richest : GoodIn wsL_refusesAny wsX3_richest := goodIn_r _ [235, 23, 211, 15, 154, 212, 213, 214, 8, 215, 10, 216, 86, 87, 27, 88, 36, 89, 90, 91, 92, 76, 77, 78, 79, 30, 42, 80, 81, 82, 35, 83, 84, 217, 218, 219, 220, 221, 147, 148, 149, 138, 139, 140, 141, 29, 222, 192, 193, 194, 129, 32, 33, 34, 37, 25, 26, 28, 100, 101, 195, 126, 127, 128, 196, 131, 132, 133, 134, 135, 136, 137, 197, 163, 164, 165, 166, 39, 40, 41, 167, 168, 169, 170, 171, 172, 173, 174, 175, 176, 177, 178, 179, 180, 181, 182, 63, 64, 65, 183, 184, 185, 186, 283, 284, 285, 286, 287, 288, 289, 290, 291, 292, 293, 294, 295, 296, 297, 298, 299, 300] (by decide +kernel) (by decide +kernel)
set_option maxRecDepth 20000 in
theorem gL_refusesAny_X3_richest : GoodIn wsL_refusesAny (wsV RL 72 RX3 yX3_richest wsX3_richest) := goodIn_app (goodIn_of _ (by decide +kernel)) ggL_refusesAny_X3_richest
set_option maxRecDepth 20000 in
theorem ggL_refusesAny_X3_save : GoodIn wsL_refusesAny wsX3_save := goodIn_r _ [239, 23, 240, 241, 60, 27, 10, 15, 70, 71, 72, 73, 74, 75, 36, 76, 77, 78, 79, 29, 30, 42, 80, 81, 82, 35, 83, 84, 216, 86, 87, 88, 89, 90, 91, 92, 43, 44, 8, 45, 283, 284, 285, 286, 287, 288, 289, 290, 291, 292, 293, 294, 295, 296, 297, 298, 299, 300] (by decide +kernel) (by decide +kernel)
set_option maxRecDepth 20000 in
theorem gL_refusesAny_X3_save : GoodIn wsL_refusesAny (wsV RL 75 RX3 yX3_save wsX3_save) := goodIn_app (goodIn_of _ (by decide +kernel)) ggL_refusesAny_X3_save
set_option maxRecDepth 20000 in
theorem ggL_refusesAny_X3_restore : GoodIn wsL_refusesAny wsX3_restore := goodIn_r _ [245, 23, 240, 98, 21, 10, 15, 52, 53, 54, 55, 56, 57, 58, 59, 60, 27, 61, 62, 63, 64, 65, 66, 67, 68, 69, 70, 71, 72, 73, 74, 75, 36, 76, 77, 78, 79, 29, 30, 42, 80, 81, 82, 35, 83, 84, 85, 86, 87, 88, 89, 90, 91, 92, 216, 43, 44, 8, 45, 283, 284, 285, 286, 287, 288, 289, 290, 291, 292, 293, 294, 295, 296, 297, 298, 299, 300, 303, 304, 305] (by decide +kernel) (by decide +kernel)
set_option maxRecDepth 20000 in
theorem gL_refusesAny_X3_restore : GoodIn wsL_refusesAny (wsV RL 78 RX3 yX3_restore wsX3_restore) := goodIn_app (goodIn_of _ (by decide +kernel)) ggL_refusesAny_X3_restore
set_option maxRecDepth 20000 in
theorem ggL_refusesAny_X3_wipe : GoodIn wsL_refusesAny wsX3_wipe := goodIn_r _ [249, 19, 20, 283, 284, 285, 286, 287, 301, 302] (by decide +kernel) (by decide +kernel)
set_option maxRecDepth 20000 in
theorem gL_refusesAny_X3_wipe : GoodIn wsL_refusesAny (wsV RL 81 RX3 yX3_wipe wsX3_wipe) := goodIn_app (goodIn_of _ (by decide +kernel)) ggL_refusesAny_X3_wipe
set_option maxRecDepth 20000 in
theorem ggL_refusesAny_X3_run : GoodIn wsL_refusesAny wsX3_run := goodIn_r _ [253, 19, 227, 254, 21, 10, 20, 98, 255, 256, 257, 258, 259, 260, 261, 262, 263, 264, 265, 266, 267, 268, 269, 270, 271, 272, 52, 53, 54, 55, 56, 57, 58, 59, 60, 27, 61, 62, 63, 64, 65, 66, 67, 68, 69, 70, 71, 72, 73, 74, 75, 36, 76, 77, 78, 79, 29, 30, 42, 80, 81, 82, 35, 83, 84, 85, 86, 87, 88, 89, 90, 91, 92, 273, 274, 275, 276, 277, 8, 278, 12, 146, 147, 148, 149, 138, 139, 140, 141, 217, 218, 219, 220, 221, 222, 192, 193, 194, 129, 32, 33, 34, 37, 25, 26, 28, 100, 101, 195, 126, 127, 128, 196, 131, 132, 133, 134, 135, 136, 137, 197, 163, 164, 165, 166, 39, 40, 41, 167, 168, 169, 170, 171, 172, 173, 174, 175, 176, 177, 178, 179, 180, 181, 182, 183, 184, 185, 186, 162, 191, 125, 130, 283, 284, 285, 286, 287, 301, 302, 303, 304, 305, 288, 289, 290, 291, 292, 293, 294, 295, 296, 297, 298, 299, 300] (by decide +kernel) (by decide +kernel)
set_option maxRecDepth 20000 in
theorem gL_refusesAny_X3_run : GoodIn wsL_refusesAny (wsV RL 84 RX3 yX3_run wsX3_run) := goodIn_app (goodIn_of _ (by decide +kernel)) ggL_refusesAny_X3_run
set_option maxRecDepth 20000 in
theorem ggL_refusesAny_X3_fault : GoodIn wsL_refusesAny wsX3_fault := goodIn_r _ [282, 19, 255, 256, 257, 258, 259, 260, 261, 262, 263, 264, 265, 266, 267, 268, 269, 270, 271, 272, 283, 284, 285, 286, 287, 301, 302] (by decide +kernel) (by decide +kernel)
set_option maxRecDepth 20000 in
theorem gL_refusesAny_X3_fault : GoodIn wsL_refusesAny (wsV RL 88 RX3 yX3_fault wsX3_fault) := goodIn_app (goodIn_of _ (by decide +kernel)) ggL_refusesAny_X3_fault
theorem dL_refusesAny_0 : decode cL_refusesAny 0 = .ok (.iload_n 1, 1) := by decide +kernel
theorem dL_refusesAny_1 : decode cL_refusesAny 1 = .ok (.iconst 2, 1) := by decide +kernel
theorem dL_refusesAny_2 : decode cL_refusesAny 2 = .ok (.irem, 1) := by decide +kernel
theorem dL_refusesAny_3 : decode cL_refusesAny 3 = .ok (.ifCond .ne 12, 3) := by decide +kernel
theorem dL_refusesAny_6 : decode cL_refusesAny 6 = .ok (.iconst (-1), 1) := by decide +kernel
theorem dL_refusesAny_7 : decode cL_refusesAny 7 = .ok (.iload_n 1, 1) := by decide +kernel
theorem dL_refusesAny_8 : decode cL_refusesAny 8 = .ok (.bipush 99, 2) := by decide +kernel
theorem dL_refusesAny_10 : decode cL_refusesAny 10 = .ok (.irem, 1) := by decide +kernel
theorem dL_refusesAny_11 : decode cL_refusesAny 11 = .ok (.isub, 1) := by decide +kernel
theorem dL_refusesAny_12 : decode cL_refusesAny 12 = .ok (.goto 9, 3) := by decide +kernel
theorem dL_refusesAny_15 : decode cL_refusesAny 15 = .ok (.iconst 5, 1) := by decide +kernel
theorem dL_refusesAny_16 : decode cL_refusesAny 16 = .ok (.iload_n 1, 1) := by decide +kernel
theorem dL_refusesAny_17 : decode cL_refusesAny 17 = .ok (.bipush 99, 2) := by decide +kernel
theorem dL_refusesAny_19 : decode cL_refusesAny 19 = .ok (.irem, 1) := by decide +kernel
theorem dL_refusesAny_20 : decode cL_refusesAny 20 = .ok (.iadd, 1) := by decide +kernel
theorem dL_refusesAny_21 : decode cL_refusesAny 21 = .ok (.istore_n 2, 1) := by decide +kernel
theorem dL_refusesAny_22 : decode cL_refusesAny 22 = .ok (.iload_n 1, 1) := by decide +kernel
theorem dL_refusesAny_23 : decode cL_refusesAny 23 = .ok (.iconst 2, 1) := by decide +kernel
theorem dL_refusesAny_24 : decode cL_refusesAny 24 = .ok (.irem, 1) := by decide +kernel
theorem dL_refusesAny_25 : decode cL_refusesAny 25 = .ok (.ifCond .ne 12, 3) := by decide +kernel
theorem dL_refusesAny_28 : decode cL_refusesAny 28 = .ok (.iconst (-1), 1) := by decide +kernel
theorem dL_refusesAny_29 : decode cL_refusesAny 29 = .ok (.iload_n 1, 1) := by decide +kernel
theorem dL_refusesAny_30 : decode cL_refusesAny 30 = .ok (.bipush 99, 2) := by decide +kernel
theorem dL_refusesAny_32 : decode cL_refusesAny 32 = .ok (.irem, 1) := by decide +kernel
theorem dL_refusesAny_33 : decode cL_refusesAny 33 = .ok (.isub, 1) := by decide +kernel
theorem dL_refusesAny_34 : decode cL_refusesAny 34 = .ok (.goto 11, 3) := by decide +kernel
theorem dL_refusesAny_37 : decode cL_refusesAny 37 = .ok (.sipush 10000, 3) := by decide +kernel
theorem dL_refusesAny_40 : decode cL_refusesAny 40 = .ok (.iload_n 1, 1) := by decide +kernel
theorem dL_refusesAny_41 : decode cL_refusesAny 41 = .ok (.bipush 99, 2) := by decide +kernel
theorem dL_refusesAny_43 : decode cL_refusesAny 43 = .ok (.irem, 1) := by decide +kernel
theorem dL_refusesAny_44 : decode cL_refusesAny 44 = .ok (.iadd, 1) := by decide +kernel
theorem dL_refusesAny_45 : decode cL_refusesAny 45 = .ok (.istore_n 3, 1) := by decide +kernel
theorem dL_refusesAny_46 : decode cL_refusesAny 46 = .ok (.iload_n 1, 1) := by decide +kernel
theorem dL_refusesAny_47 : decode cL_refusesAny 47 = .ok (.iconst 2, 1) := by decide +kernel
theorem dL_refusesAny_48 : decode cL_refusesAny 48 = .ok (.irem, 1) := by decide +kernel
theorem dL_refusesAny_49 : decode cL_refusesAny 49 = .ok (.ifCond .ne 12, 3) := by decide +kernel
theorem dL_refusesAny_52 : decode cL_refusesAny 52 = .ok (.iconst (-1), 1) := by decide +kernel
theorem dL_refusesAny_53 : decode cL_refusesAny 53 = .ok (.iload_n 1, 1) := by decide +kernel
theorem dL_refusesAny_54 : decode cL_refusesAny 54 = .ok (.bipush 99, 2) := by decide +kernel
theorem dL_refusesAny_56 : decode cL_refusesAny 56 = .ok (.irem, 1) := by decide +kernel
theorem dL_refusesAny_57 : decode cL_refusesAny 57 = .ok (.isub, 1) := by decide +kernel
theorem dL_refusesAny_58 : decode cL_refusesAny 58 = .ok (.goto 10, 3) := by decide +kernel
theorem dL_refusesAny_61 : decode cL_refusesAny 61 = .ok (.bipush 100, 2) := by decide +kernel
theorem dL_refusesAny_63 : decode cL_refusesAny 63 = .ok (.iload_n 1, 1) := by decide +kernel
theorem dL_refusesAny_64 : decode cL_refusesAny 64 = .ok (.bipush 99, 2) := by decide +kernel
theorem dL_refusesAny_66 : decode cL_refusesAny 66 = .ok (.irem, 1) := by decide +kernel
theorem dL_refusesAny_67 : decode cL_refusesAny 67 = .ok (.iadd, 1) := by decide +kernel
theorem dL_refusesAny_68 : decode cL_refusesAny 68 = .ok (.istore 4, 2) := by decide +kernel
theorem dL_refusesAny_70 : decode cL_refusesAny 70 = .ok (.aload_n 0, 1) := by decide +kernel
theorem dL_refusesAny_71 : decode cL_refusesAny 71 = .ok (.iconst 4, 1) := by decide +kernel
theorem dL_refusesAny_72 : decode cL_refusesAny 72 = .ok (.invokevirtual 13, 3) := by decide +kernel
theorem dL_refusesAny_75 : decode cL_refusesAny 75 = .ok (.iconst 1, 1) := by decide +kernel
theorem dL_refusesAny_76 : decode cL_refusesAny 76 = .ok (.if_icmp .ne 7, 3) := by decide +kernel
theorem dL_refusesAny_79 : decode cL_refusesAny 79 = .ok (.iconst 1, 1) := by decide +kernel
theorem dL_refusesAny_80 : decode cL_refusesAny 80 = .ok (.goto 4, 3) := by decide +kernel
theorem dL_refusesAny_83 : decode cL_refusesAny 83 = .ok (.iconst 0, 1) := by decide +kernel
theorem dL_refusesAny_84 : decode cL_refusesAny 84 = .ok (.istore 5, 2) := by decide +kernel
theorem dL_refusesAny_86 : decode cL_refusesAny 86 = .ok (.aload_n 0, 1) := by decide +kernel
theorem dL_refusesAny_87 : decode cL_refusesAny 87 = .ok (.iload_n 1, 1) := by decide +kernel
theorem dL_refusesAny_88 : decode cL_refusesAny 88 = .ok (.iconst 2, 1) := by decide +kernel
theorem dL_refusesAny_89 : decode cL_refusesAny 89 = .ok (.irem, 1) := by decide +kernel
theorem dL_refusesAny_90 : decode cL_refusesAny 90 = .ok (.ifCond .ne 7, 3) := by decide +kernel
theorem dL_refusesAny_93 : decode cL_refusesAny 93 = .ok (.iconst (-1), 1) := by decide +kernel
theorem dL_refusesAny_94 : decode cL_refusesAny 94 = .ok (.goto 4, 3) := by decide +kernel
theorem dL_refusesAny_97 : decode cL_refusesAny 97 = .ok (.iconst 4, 1) := by decide +kernel
theorem dL_refusesAny_98 : decode cL_refusesAny 98 = .ok (.iconst 1, 1) := by decide +kernel
theorem dL_refusesAny_99 : decode cL_refusesAny 99 = .ok (.invokevirtual 37, 3) := by decide +kernel
theorem dL_refusesAny_102 : decode cL_refusesAny 102 = .ok (.ldc 40, 2) := by decide +kernel
theorem dL_refusesAny_104 : decode cL_refusesAny 104 = .ok (.if_icmp .ne 283, 3) := by decide +kernel
theorem dL_refusesAny_107 : decode cL_refusesAny 107 = .ok (.aload_n 0, 1) := by decide +kernel
theorem dL_refusesAny_108 : decode cL_refusesAny 108 = .ok (.iconst 0, 1) := by decide +kernel
theorem dL_refusesAny_109 : decode cL_refusesAny 109 = .ok (.iload_n 1, 1) := by decide +kernel
theorem dL_refusesAny_110 : decode cL_refusesAny 110 = .ok (.iconst 2, 1) := by decide +kernel
theorem dL_refusesAny_111 : decode cL_refusesAny 111 = .ok (.irem, 1) := by decide +kernel
theorem dL_refusesAny_112 : decode cL_refusesAny 112 = .ok (.ifCond .ne 7, 3) := by decide +kernel
theorem dL_refusesAny_115 : decode cL_refusesAny 115 = .ok (.iconst 0, 1) := by decide +kernel
theorem dL_refusesAny_116 : decode cL_refusesAny 116 = .ok (.goto 5, 3) := by decide +kernel
theorem dL_refusesAny_119 : decode cL_refusesAny 119 = .ok (.bipush 10, 2) := by decide +kernel
theorem dL_refusesAny_121 : decode cL_refusesAny 121 = .ok (.invokevirtual 37, 3) := by decide +kernel
theorem dL_refusesAny_124 : decode cL_refusesAny 124 = .ok (.ldc 40, 2) := by decide +kernel
theorem dL_refusesAny_126 : decode cL_refusesAny 126 = .ok (.if_icmp .ne 261, 3) := by decide +kernel
theorem dL_refusesAny_129 : decode cL_refusesAny 129 = .ok (.aload_n 0, 1) := by decide +kernel
theorem dL_refusesAny_130 : decode cL_refusesAny 130 = .ok (.iconst 1, 1) := by decide +kernel
theorem dL_refusesAny_131 : decode cL_refusesAny 131 = .ok (.iload_n 1, 1) := by decide +kernel
theorem dL_refusesAny_132 : decode cL_refusesAny 132 = .ok (.iconst 2, 1) := by decide +kernel
theorem dL_refusesAny_133 : decode cL_refusesAny 133 = .ok (.irem, 1) := by decide +kernel
theorem dL_refusesAny_134 : decode cL_refusesAny 134 = .ok (.ifCond .ne 7, 3) := by decide +kernel
theorem dL_refusesAny_137 : decode cL_refusesAny 137 = .ok (.iconst (-1), 1) := by decide +kernel
theorem dL_refusesAny_138 : decode cL_refusesAny 138 = .ok (.goto 5, 3) := by decide +kernel
theorem dL_refusesAny_141 : decode cL_refusesAny 141 = .ok (.bipush 21, 2) := by decide +kernel
theorem dL_refusesAny_143 : decode cL_refusesAny 143 = .ok (.invokevirtual 37, 3) := by decide +kernel
theorem dL_refusesAny_146 : decode cL_refusesAny 146 = .ok (.ldc 40, 2) := by decide +kernel
theorem dL_refusesAny_148 : decode cL_refusesAny 148 = .ok (.if_icmp .ne 239, 3) := by decide +kernel
theorem dL_refusesAny_151 : decode cL_refusesAny 151 = .ok (.aload_n 0, 1) := by decide +kernel
theorem dL_refusesAny_152 : decode cL_refusesAny 152 = .ok (.iconst 2, 1) := by decide +kernel
theorem dL_refusesAny_153 : decode cL_refusesAny 153 = .ok (.iload_n 1, 1) := by decide +kernel
theorem dL_refusesAny_154 : decode cL_refusesAny 154 = .ok (.iconst 2, 1) := by decide +kernel
theorem dL_refusesAny_155 : decode cL_refusesAny 155 = .ok (.irem, 1) := by decide +kernel
theorem dL_refusesAny_156 : decode cL_refusesAny 156 = .ok (.ifCond .ne 7, 3) := by decide +kernel
theorem dL_refusesAny_159 : decode cL_refusesAny 159 = .ok (.iconst (-1), 1) := by decide +kernel
theorem dL_refusesAny_160 : decode cL_refusesAny 160 = .ok (.goto 5, 3) := by decide +kernel
theorem dL_refusesAny_163 : decode cL_refusesAny 163 = .ok (.bipush 101, 2) := by decide +kernel
theorem dL_refusesAny_165 : decode cL_refusesAny 165 = .ok (.invokevirtual 37, 3) := by decide +kernel
theorem dL_refusesAny_168 : decode cL_refusesAny 168 = .ok (.ldc 40, 2) := by decide +kernel
theorem dL_refusesAny_170 : decode cL_refusesAny 170 = .ok (.if_icmp .ne 217, 3) := by decide +kernel
theorem dL_refusesAny_173 : decode cL_refusesAny 173 = .ok (.aload_n 0, 1) := by decide +kernel
theorem dL_refusesAny_174 : decode cL_refusesAny 174 = .ok (.iconst 3, 1) := by decide +kernel
theorem dL_refusesAny_175 : decode cL_refusesAny 175 = .ok (.iload_n 1, 1) := by decide +kernel
theorem dL_refusesAny_176 : decode cL_refusesAny 176 = .ok (.iconst 2, 1) := by decide +kernel
theorem dL_refusesAny_177 : decode cL_refusesAny 177 = .ok (.irem, 1) := by decide +kernel
theorem dL_refusesAny_178 : decode cL_refusesAny 178 = .ok (.ifCond .ne 7, 3) := by decide +kernel
theorem dL_refusesAny_181 : decode cL_refusesAny 181 = .ok (.iconst (-1), 1) := by decide +kernel
theorem dL_refusesAny_182 : decode cL_refusesAny 182 = .ok (.goto 5, 3) := by decide +kernel
theorem dL_refusesAny_185 : decode cL_refusesAny 185 = .ok (.bipush 101, 2) := by decide +kernel
theorem dL_refusesAny_187 : decode cL_refusesAny 187 = .ok (.invokevirtual 37, 3) := by decide +kernel
theorem dL_refusesAny_190 : decode cL_refusesAny 190 = .ok (.ldc 40, 2) := by decide +kernel
theorem dL_refusesAny_192 : decode cL_refusesAny 192 = .ok (.if_icmp .ne 195, 3) := by decide +kernel
theorem dL_refusesAny_195 : decode cL_refusesAny 195 = .ok (.aload_n 0, 1) := by decide +kernel
theorem dL_refusesAny_196 : decode cL_refusesAny 196 = .ok (.iload_n 2, 1) := by decide +kernel
theorem dL_refusesAny_197 : decode cL_refusesAny 197 = .ok (.iload_n 3, 1) := by decide +kernel
theorem dL_refusesAny_198 : decode cL_refusesAny 198 = .ok (.invokevirtual 41, 3) := by decide +kernel
theorem dL_refusesAny_201 : decode cL_refusesAny 201 = .ok (.ldc 44, 2) := by decide +kernel
theorem dL_refusesAny_203 : decode cL_refusesAny 203 = .ok (.if_icmp .ne 184, 3) := by decide +kernel
theorem dL_refusesAny_206 : decode cL_refusesAny 206 = .ok (.aload_n 0, 1) := by decide +kernel
theorem dL_refusesAny_207 : decode cL_refusesAny 207 = .ok (.iconst 0, 1) := by decide +kernel
theorem dL_refusesAny_208 : decode cL_refusesAny 208 = .ok (.iload_n 3, 1) := by decide +kernel
theorem dL_refusesAny_209 : decode cL_refusesAny 209 = .ok (.invokevirtual 41, 3) := by decide +kernel
theorem dL_refusesAny_212 : decode cL_refusesAny 212 = .ok (.ldc 40, 2) := by decide +kernel
theorem dL_refusesAny_214 : decode cL_refusesAny 214 = .ok (.if_icmp .ne 173, 3) := by decide +kernel
theorem dL_refusesAny_217 : decode cL_refusesAny 217 = .ok (.aload_n 0, 1) := by decide +kernel
theorem dL_refusesAny_218 : decode cL_refusesAny 218 = .ok (.iload_n 2, 1) := by decide +kernel
theorem dL_refusesAny_219 : decode cL_refusesAny 219 = .ok (.iload 4, 2) := by decide +kernel
theorem dL_refusesAny_221 : decode cL_refusesAny 221 = .ok (.invokevirtual 45, 3) := by decide +kernel
theorem dL_refusesAny_224 : decode cL_refusesAny 224 = .ok (.ldc 44, 2) := by decide +kernel
theorem dL_refusesAny_226 : decode cL_refusesAny 226 = .ok (.if_icmp .ne 161, 3) := by decide +kernel
theorem dL_refusesAny_229 : decode cL_refusesAny 229 = .ok (.aload_n 0, 1) := by decide +kernel
theorem dL_refusesAny_230 : decode cL_refusesAny 230 = .ok (.iconst 0, 1) := by decide +kernel
theorem dL_refusesAny_231 : decode cL_refusesAny 231 = .ok (.iload 4, 2) := by decide +kernel
theorem dL_refusesAny_233 : decode cL_refusesAny 233 = .ok (.invokevirtual 45, 3) := by decide +kernel
theorem dL_refusesAny_236 : decode cL_refusesAny 236 = .ok (.ldc 40, 2) := by decide +kernel
theorem dL_refusesAny_238 : decode cL_refusesAny 238 = .ok (.if_icmp .ne 149, 3) := by decide +kernel
theorem dL_refusesAny_241 : decode cL_refusesAny 241 = .ok (.aload_n 0, 1) := by decide +kernel
theorem dL_refusesAny_242 : decode cL_refusesAny 242 = .ok (.iload_n 2, 1) := by decide +kernel
theorem dL_refusesAny_243 : decode cL_refusesAny 243 = .ok (.iload 4, 2) := by decide +kernel
theorem dL_refusesAny_245 : decode cL_refusesAny 245 = .ok (.invokevirtual 48, 3) := by decide +kernel
theorem dL_refusesAny_248 : decode cL_refusesAny 248 = .ok (.ldc 44, 2) := by decide +kernel
theorem dL_refusesAny_250 : decode cL_refusesAny 250 = .ok (.if_icmp .ne 137, 3) := by decide +kernel
theorem dL_refusesAny_253 : decode cL_refusesAny 253 = .ok (.aload_n 0, 1) := by decide +kernel
theorem dL_refusesAny_254 : decode cL_refusesAny 254 = .ok (.iconst 0, 1) := by decide +kernel
theorem dL_refusesAny_255 : decode cL_refusesAny 255 = .ok (.iload 4, 2) := by decide +kernel
theorem dL_refusesAny_257 : decode cL_refusesAny 257 = .ok (.invokevirtual 48, 3) := by decide +kernel
theorem dL_refusesAny_260 : decode cL_refusesAny 260 = .ok (.ldc 40, 2) := by decide +kernel
theorem dL_refusesAny_262 : decode cL_refusesAny 262 = .ok (.if_icmp .ne 125, 3) := by decide +kernel
theorem dL_refusesAny_265 : decode cL_refusesAny 265 = .ok (.aload_n 0, 1) := by decide +kernel
theorem dL_refusesAny_266 : decode cL_refusesAny 266 = .ok (.iload_n 3, 1) := by decide +kernel
theorem dL_refusesAny_267 : decode cL_refusesAny 267 = .ok (.invokevirtual 51, 3) := by decide +kernel
theorem dL_refusesAny_270 : decode cL_refusesAny 270 = .ok (.ldc 40, 2) := by decide +kernel
theorem dL_refusesAny_272 : decode cL_refusesAny 272 = .ok (.if_icmp .ne 115, 3) := by decide +kernel
theorem dL_refusesAny_275 : decode cL_refusesAny 275 = .ok (.iload 5, 2) := by decide +kernel
theorem dL_refusesAny_277 : decode cL_refusesAny 277 = .ok (.ifCond .eq 78, 3) := by decide +kernel
theorem dL_refusesAny_280 : decode cL_refusesAny 280 = .ok (.aload_n 0, 1) := by decide +kernel
theorem dL_refusesAny_281 : decode cL_refusesAny 281 = .ok (.invokevirtual 54, 3) := by decide +kernel
theorem dL_refusesAny_284 : decode cL_refusesAny 284 = .ok (.ldc 36, 2) := by decide +kernel
theorem dL_refusesAny_286 : decode cL_refusesAny 286 = .ok (.if_icmp .ne 101, 3) := by decide +kernel
theorem dL_refusesAny_289 : decode cL_refusesAny 289 = .ok (.aload_n 0, 1) := by decide +kernel
theorem dL_refusesAny_290 : decode cL_refusesAny 290 = .ok (.bipush 7, 2) := by decide +kernel
theorem dL_refusesAny_292 : decode cL_refusesAny 292 = .ok (.invokevirtual 13, 3) := by decide +kernel
theorem dL_refusesAny_295 : decode cL_refusesAny 295 = .ok (.ifCond .eq 20, 3) := by decide +kernel
theorem dL_refusesAny_298 : decode cL_refusesAny 298 = .ok (.aload_n 0, 1) := by decide +kernel
theorem dL_refusesAny_299 : decode cL_refusesAny 299 = .ok (.aload_n 0, 1) := by decide +kernel
theorem dL_refusesAny_300 : decode cL_refusesAny 300 = .ok (.bipush 7, 2) := by decide +kernel
theorem dL_refusesAny_302 : decode cL_refusesAny 302 = .ok (.invokevirtual 13, 3) := by decide +kernel
theorem dL_refusesAny_305 : decode cL_refusesAny 305 = .ok (.iconst 1, 1) := by decide +kernel
theorem dL_refusesAny_306 : decode cL_refusesAny 306 = .ok (.isub, 1) := by decide +kernel
theorem dL_refusesAny_307 : decode cL_refusesAny 307 = .ok (.invokevirtual 51, 3) := by decide +kernel
theorem dL_refusesAny_310 : decode cL_refusesAny 310 = .ok (.ldc 36, 2) := by decide +kernel
theorem dL_refusesAny_312 : decode cL_refusesAny 312 = .ok (.if_icmp .ne 75, 3) := by decide +kernel
theorem dL_refusesAny_315 : decode cL_refusesAny 315 = .ok (.aload_n 0, 1) := by decide +kernel
theorem dL_refusesAny_316 : decode cL_refusesAny 316 = .ok (.aload_n 0, 1) := by decide +kernel
theorem dL_refusesAny_317 : decode cL_refusesAny 317 = .ok (.iconst 5, 1) := by decide +kernel
theorem dL_refusesAny_318 : decode cL_refusesAny 318 = .ok (.invokevirtual 13, 3) := by decide +kernel
theorem dL_refusesAny_321 : decode cL_refusesAny 321 = .ok (.iconst 0, 1) := by decide +kernel
theorem dL_refusesAny_322 : decode cL_refusesAny 322 = .ok (.invokevirtual 19, 3) := by decide +kernel
theorem dL_refusesAny_325 : decode cL_refusesAny 325 = .ok (.sipush 9999, 3) := by decide +kernel
theorem dL_refusesAny_328 : decode cL_refusesAny 328 = .ok (.if_icmp .eq 55, 3) := by decide +kernel
theorem dL_refusesAny_331 : decode cL_refusesAny 331 = .ok (.aload_n 0, 1) := by decide +kernel
theorem dL_refusesAny_332 : decode cL_refusesAny 332 = .ok (.aload_n 0, 1) := by decide +kernel
theorem dL_refusesAny_333 : decode cL_refusesAny 333 = .ok (.aload_n 0, 1) := by decide +kernel
theorem dL_refusesAny_334 : decode cL_refusesAny 334 = .ok (.iconst 5, 1) := by decide +kernel
theorem dL_refusesAny_335 : decode cL_refusesAny 335 = .ok (.invokevirtual 13, 3) := by decide +kernel
theorem dL_refusesAny_338 : decode cL_refusesAny 338 = .ok (.iconst 0, 1) := by decide +kernel
theorem dL_refusesAny_339 : decode cL_refusesAny 339 = .ok (.invokevirtual 19, 3) := by decide +kernel
theorem dL_refusesAny_342 : decode cL_refusesAny 342 = .ok (.iconst 1, 1) := by decide +kernel
theorem dL_refusesAny_343 : decode cL_refusesAny 343 = .ok (.iadd, 1) := by decide +kernel
theorem dL_refusesAny_344 : decode cL_refusesAny 344 = .ok (.invokevirtual 51, 3) := by decide +kernel
theorem dL_refusesAny_347 : decode cL_refusesAny 347 = .ok (.ldc 36, 2) := by decide +kernel
theorem dL_refusesAny_349 : decode cL_refusesAny 349 = .ok (.if_icmp .ne 38, 3) := by decide +kernel
theorem dL_refusesAny_352 : decode cL_refusesAny 352 = .ok (.goto 31, 3) := by decide +kernel
theorem dL_refusesAny_355 : decode cL_refusesAny 355 = .ok (.aload_n 0, 1) := by decide +kernel
theorem dL_refusesAny_356 : decode cL_refusesAny 356 = .ok (.iconst 5, 1) := by decide +kernel
theorem dL_refusesAny_357 : decode cL_refusesAny 357 = .ok (.invokevirtual 51, 3) := by decide +kernel
theorem dL_refusesAny_360 : decode cL_refusesAny 360 = .ok (.ldc 36, 2) := by decide +kernel
theorem dL_refusesAny_362 : decode cL_refusesAny 362 = .ok (.if_icmp .ne 25, 3) := by decide +kernel
theorem dL_refusesAny_365 : decode cL_refusesAny 365 = .ok (.aload_n 0, 1) := by decide +kernel
theorem dL_refusesAny_366 : decode cL_refusesAny 366 = .ok (.invokevirtual 57, 3) := by decide +kernel
theorem dL_refusesAny_369 : decode cL_refusesAny 369 = .ok (.ldc 36, 2) := by decide +kernel
theorem dL_refusesAny_371 : decode cL_refusesAny 371 = .ok (.if_icmp .ne 16, 3) := by decide +kernel
theorem dL_refusesAny_374 : decode cL_refusesAny 374 = .ok (.aload_n 0, 1) := by decide +kernel
theorem dL_refusesAny_375 : decode cL_refusesAny 375 = .ok (.invokevirtual 60, 3) := by decide +kernel
theorem dL_refusesAny_378 : decode cL_refusesAny 378 = .ok (.ldc 36, 2) := by decide +kernel
theorem dL_refusesAny_380 : decode cL_refusesAny 380 = .ok (.if_icmp .ne 7, 3) := by decide +kernel
theorem dL_refusesAny_383 : decode cL_refusesAny 383 = .ok (.iconst 1, 1) := by decide +kernel
theorem dL_refusesAny_384 : decode cL_refusesAny 384 = .ok (.goto 4, 3) := by decide +kernel
theorem dL_refusesAny_387 : decode cL_refusesAny 387 = .ok (.iconst 0, 1) := by decide +kernel
theorem dL_refusesAny_388 : decode cL_refusesAny 388 = .ok (.istore 6, 2) := by decide +kernel
theorem dL_refusesAny_390 : decode cL_refusesAny 390 = .ok (.iload 6, 2) := by decide +kernel
theorem dL_refusesAny_392 : decode cL_refusesAny 392 = .ok (.ifCond .eq 242, 3) := by decide +kernel
theorem dL_refusesAny_395 : decode cL_refusesAny 395 = .ok (.aload_n 0, 1) := by decide +kernel
theorem dL_refusesAny_396 : decode cL_refusesAny 396 = .ok (.iload_n 2, 1) := by decide +kernel
theorem dL_refusesAny_397 : decode cL_refusesAny 397 = .ok (.bipush 99, 2) := by decide +kernel
theorem dL_refusesAny_399 : decode cL_refusesAny 399 = .ok (.invokevirtual 19, 3) := by decide +kernel
theorem dL_refusesAny_402 : decode cL_refusesAny 402 = .ok (.ldc 44, 2) := by decide +kernel
theorem dL_refusesAny_404 : decode cL_refusesAny 404 = .ok (.if_icmp .ne 230, 3) := by decide +kernel
theorem dL_refusesAny_407 : decode cL_refusesAny 407 = .ok (.aload_n 0, 1) := by decide +kernel
theorem dL_refusesAny_408 : decode cL_refusesAny 408 = .ok (.iconst 0, 1) := by decide +kernel
theorem dL_refusesAny_409 : decode cL_refusesAny 409 = .ok (.iload_n 1, 1) := by decide +kernel
theorem dL_refusesAny_410 : decode cL_refusesAny 410 = .ok (.iconst 2, 1) := by decide +kernel
theorem dL_refusesAny_411 : decode cL_refusesAny 411 = .ok (.irem, 1) := by decide +kernel
theorem dL_refusesAny_412 : decode cL_refusesAny 412 = .ok (.ifCond .ne 7, 3) := by decide +kernel
theorem dL_refusesAny_415 : decode cL_refusesAny 415 = .ok (.iconst (-1), 1) := by decide +kernel
theorem dL_refusesAny_416 : decode cL_refusesAny 416 = .ok (.goto 5, 3) := by decide +kernel
theorem dL_refusesAny_419 : decode cL_refusesAny 419 = .ok (.bipush 8, 2) := by decide +kernel
theorem dL_refusesAny_421 : decode cL_refusesAny 421 = .ok (.invokevirtual 19, 3) := by decide +kernel
theorem dL_refusesAny_424 : decode cL_refusesAny 424 = .ok (.ldc 40, 2) := by decide +kernel
theorem dL_refusesAny_426 : decode cL_refusesAny 426 = .ok (.if_icmp .ne 208, 3) := by decide +kernel
theorem dL_refusesAny_429 : decode cL_refusesAny 429 = .ok (.aload_n 0, 1) := by decide +kernel
theorem dL_refusesAny_430 : decode cL_refusesAny 430 = .ok (.iload_n 2, 1) := by decide +kernel
theorem dL_refusesAny_431 : decode cL_refusesAny 431 = .ok (.invokevirtual 23, 3) := by decide +kernel
theorem dL_refusesAny_434 : decode cL_refusesAny 434 = .ok (.ldc 44, 2) := by decide +kernel
theorem dL_refusesAny_436 : decode cL_refusesAny 436 = .ok (.if_icmp .ne 198, 3) := by decide +kernel
theorem dL_refusesAny_439 : decode cL_refusesAny 439 = .ok (.aload_n 0, 1) := by decide +kernel
theorem dL_refusesAny_440 : decode cL_refusesAny 440 = .ok (.iload_n 2, 1) := by decide +kernel
theorem dL_refusesAny_441 : decode cL_refusesAny 441 = .ok (.invokevirtual 26, 3) := by decide +kernel
theorem dL_refusesAny_444 : decode cL_refusesAny 444 = .ok (.ldc 44, 2) := by decide +kernel
theorem dL_refusesAny_446 : decode cL_refusesAny 446 = .ok (.if_icmp .ne 188, 3) := by decide +kernel
theorem dL_refusesAny_449 : decode cL_refusesAny 449 = .ok (.aload_n 0, 1) := by decide +kernel
theorem dL_refusesAny_450 : decode cL_refusesAny 450 = .ok (.iload_n 1, 1) := by decide +kernel
theorem dL_refusesAny_451 : decode cL_refusesAny 451 = .ok (.iconst 2, 1) := by decide +kernel
theorem dL_refusesAny_452 : decode cL_refusesAny 452 = .ok (.irem, 1) := by decide +kernel
theorem dL_refusesAny_453 : decode cL_refusesAny 453 = .ok (.ifCond .ne 7, 3) := by decide +kernel
theorem dL_refusesAny_456 : decode cL_refusesAny 456 = .ok (.iconst (-1), 1) := by decide +kernel
theorem dL_refusesAny_457 : decode cL_refusesAny 457 = .ok (.goto 5, 3) := by decide +kernel
theorem dL_refusesAny_460 : decode cL_refusesAny 460 = .ok (.bipush 16, 2) := by decide +kernel
theorem dL_refusesAny_462 : decode cL_refusesAny 462 = .ok (.invokevirtual 13, 3) := by decide +kernel
theorem dL_refusesAny_465 : decode cL_refusesAny 465 = .ok (.ldc 40, 2) := by decide +kernel
theorem dL_refusesAny_467 : decode cL_refusesAny 467 = .ok (.if_icmp .ne 167, 3) := by decide +kernel
theorem dL_refusesAny_470 : decode cL_refusesAny 470 = .ok (.aload_n 0, 1) := by decide +kernel
theorem dL_refusesAny_471 : decode cL_refusesAny 471 = .ok (.iload_n 2, 1) := by decide +kernel
theorem dL_refusesAny_472 : decode cL_refusesAny 472 = .ok (.bipush 9, 2) := by decide +kernel
theorem dL_refusesAny_474 : decode cL_refusesAny 474 = .ok (.invokevirtual 63, 3) := by decide +kernel
theorem dL_refusesAny_477 : decode cL_refusesAny 477 = .ok (.ldc 44, 2) := by decide +kernel
theorem dL_refusesAny_479 : decode cL_refusesAny 479 = .ok (.if_icmp .ne 155, 3) := by decide +kernel
theorem dL_refusesAny_482 : decode cL_refusesAny 482 = .ok (.aload_n 0, 1) := by decide +kernel
theorem dL_refusesAny_483 : decode cL_refusesAny 483 = .ok (.iconst 0, 1) := by decide +kernel
theorem dL_refusesAny_484 : decode cL_refusesAny 484 = .ok (.iload_n 1, 1) := by decide +kernel
theorem dL_refusesAny_485 : decode cL_refusesAny 485 = .ok (.iconst 2, 1) := by decide +kernel
theorem dL_refusesAny_486 : decode cL_refusesAny 486 = .ok (.irem, 1) := by decide +kernel
theorem dL_refusesAny_487 : decode cL_refusesAny 487 = .ok (.ifCond .ne 7, 3) := by decide +kernel
theorem dL_refusesAny_490 : decode cL_refusesAny 490 = .ok (.iconst (-1), 1) := by decide +kernel
theorem dL_refusesAny_491 : decode cL_refusesAny 491 = .ok (.goto 4, 3) := by decide +kernel
theorem dL_refusesAny_494 : decode cL_refusesAny 494 = .ok (.iconst 4, 1) := by decide +kernel
theorem dL_refusesAny_495 : decode cL_refusesAny 495 = .ok (.invokevirtual 63, 3) := by decide +kernel
theorem dL_refusesAny_498 : decode cL_refusesAny 498 = .ok (.ldc 40, 2) := by decide +kernel
theorem dL_refusesAny_500 : decode cL_refusesAny 500 = .ok (.if_icmp .ne 134, 3) := by decide +kernel
theorem dL_refusesAny_503 : decode cL_refusesAny 503 = .ok (.aload_n 0, 1) := by decide +kernel
theorem dL_refusesAny_504 : decode cL_refusesAny 504 = .ok (.iload_n 2, 1) := by decide +kernel
theorem dL_refusesAny_505 : decode cL_refusesAny 505 = .ok (.bipush 9, 2) := by decide +kernel
theorem dL_refusesAny_507 : decode cL_refusesAny 507 = .ok (.invokevirtual 66, 3) := by decide +kernel
theorem dL_refusesAny_510 : decode cL_refusesAny 510 = .ok (.ldc 44, 2) := by decide +kernel
theorem dL_refusesAny_512 : decode cL_refusesAny 512 = .ok (.if_icmp .ne 122, 3) := by decide +kernel
theorem dL_refusesAny_515 : decode cL_refusesAny 515 = .ok (.aload_n 0, 1) := by decide +kernel
theorem dL_refusesAny_516 : decode cL_refusesAny 516 = .ok (.iconst 0, 1) := by decide +kernel
theorem dL_refusesAny_517 : decode cL_refusesAny 517 = .ok (.iload_n 1, 1) := by decide +kernel
theorem dL_refusesAny_518 : decode cL_refusesAny 518 = .ok (.iconst 2, 1) := by decide +kernel
theorem dL_refusesAny_519 : decode cL_refusesAny 519 = .ok (.irem, 1) := by decide +kernel
theorem dL_refusesAny_520 : decode cL_refusesAny 520 = .ok (.ifCond .ne 7, 3) := by decide +kernel
theorem dL_refusesAny_523 : decode cL_refusesAny 523 = .ok (.iconst (-1), 1) := by decide +kernel
theorem dL_refusesAny_524 : decode cL_refusesAny 524 = .ok (.goto 4, 3) := by decide +kernel
theorem dL_refusesAny_527 : decode cL_refusesAny 527 = .ok (.iconst 2, 1) := by decide +kernel
theorem dL_refusesAny_528 : decode cL_refusesAny 528 = .ok (.invokevirtual 66, 3) := by decide +kernel
theorem dL_refusesAny_531 : decode cL_refusesAny 531 = .ok (.ldc 40, 2) := by decide +kernel
theorem dL_refusesAny_533 : decode cL_refusesAny 533 = .ok (.if_icmp .ne 101, 3) := by decide +kernel
theorem dL_refusesAny_536 : decode cL_refusesAny 536 = .ok (.aload_n 0, 1) := by decide +kernel
theorem dL_refusesAny_537 : decode cL_refusesAny 537 = .ok (.iload_n 2, 1) := by decide +kernel
theorem dL_refusesAny_538 : decode cL_refusesAny 538 = .ok (.iconst 0, 1) := by decide +kernel
theorem dL_refusesAny_539 : decode cL_refusesAny 539 = .ok (.invokevirtual 69, 3) := by decide +kernel
theorem dL_refusesAny_542 : decode cL_refusesAny 542 = .ok (.ldc 44, 2) := by decide +kernel
theorem dL_refusesAny_544 : decode cL_refusesAny 544 = .ok (.if_icmp .ne 90, 3) := by decide +kernel
theorem dL_refusesAny_547 : decode cL_refusesAny 547 = .ok (.aload_n 0, 1) := by decide +kernel
theorem dL_refusesAny_548 : decode cL_refusesAny 548 = .ok (.iconst 0, 1) := by decide +kernel
theorem dL_refusesAny_549 : decode cL_refusesAny 549 = .ok (.iload_n 1, 1) := by decide +kernel
theorem dL_refusesAny_550 : decode cL_refusesAny 550 = .ok (.iconst 2, 1) := by decide +kernel
theorem dL_refusesAny_551 : decode cL_refusesAny 551 = .ok (.irem, 1) := by decide +kernel
theorem dL_refusesAny_552 : decode cL_refusesAny 552 = .ok (.ifCond .ne 7, 3) := by decide +kernel
theorem dL_refusesAny_555 : decode cL_refusesAny 555 = .ok (.iconst 0, 1) := by decide +kernel
theorem dL_refusesAny_556 : decode cL_refusesAny 556 = .ok (.goto 5, 3) := by decide +kernel
theorem dL_refusesAny_559 : decode cL_refusesAny 559 = .ok (.bipush 101, 2) := by decide +kernel
theorem dL_refusesAny_561 : decode cL_refusesAny 561 = .ok (.invokevirtual 69, 3) := by decide +kernel
theorem dL_refusesAny_564 : decode cL_refusesAny 564 = .ok (.ldc 40, 2) := by decide +kernel
theorem dL_refusesAny_566 : decode cL_refusesAny 566 = .ok (.if_icmp .ne 68, 3) := by decide +kernel
theorem dL_refusesAny_569 : decode cL_refusesAny 569 = .ok (.aload_n 0, 1) := by decide +kernel
theorem dL_refusesAny_570 : decode cL_refusesAny 570 = .ok (.iload_n 1, 1) := by decide +kernel
theorem dL_refusesAny_571 : decode cL_refusesAny 571 = .ok (.iconst 2, 1) := by decide +kernel
theorem dL_refusesAny_572 : decode cL_refusesAny 572 = .ok (.irem, 1) := by decide +kernel
theorem dL_refusesAny_573 : decode cL_refusesAny 573 = .ok (.ifCond .ne 7, 3) := by decide +kernel
theorem dL_refusesAny_576 : decode cL_refusesAny 576 = .ok (.iconst 0, 1) := by decide +kernel
theorem dL_refusesAny_577 : decode cL_refusesAny 577 = .ok (.goto 5, 3) := by decide +kernel
theorem dL_refusesAny_580 : decode cL_refusesAny 580 = .ok (.bipush 101, 2) := by decide +kernel
theorem dL_refusesAny_582 : decode cL_refusesAny 582 = .ok (.invokevirtual 72, 3) := by decide +kernel
theorem dL_refusesAny_585 : decode cL_refusesAny 585 = .ok (.ldc 40, 2) := by decide +kernel
theorem dL_refusesAny_587 : decode cL_refusesAny 587 = .ok (.if_icmp .ne 47, 3) := by decide +kernel
theorem dL_refusesAny_590 : decode cL_refusesAny 590 = .ok (.aload_n 0, 1) := by decide +kernel
theorem dL_refusesAny_591 : decode cL_refusesAny 591 = .ok (.iload_n 1, 1) := by decide +kernel
theorem dL_refusesAny_592 : decode cL_refusesAny 592 = .ok (.iconst 2, 1) := by decide +kernel
theorem dL_refusesAny_593 : decode cL_refusesAny 593 = .ok (.irem, 1) := by decide +kernel
theorem dL_refusesAny_594 : decode cL_refusesAny 594 = .ok (.ifCond .ne 7, 3) := by decide +kernel
theorem dL_refusesAny_597 : decode cL_refusesAny 597 = .ok (.iconst (-1), 1) := by decide +kernel
theorem dL_refusesAny_598 : decode cL_refusesAny 598 = .ok (.goto 4, 3) := by decide +kernel
theorem dL_refusesAny_601 : decode cL_refusesAny 601 = .ok (.iconst 2, 1) := by decide +kernel
theorem dL_refusesAny_602 : decode cL_refusesAny 602 = .ok (.invokevirtual 75, 3) := by decide +kernel
theorem dL_refusesAny_605 : decode cL_refusesAny 605 = .ok (.ldc 40, 2) := by decide +kernel
theorem dL_refusesAny_607 : decode cL_refusesAny 607 = .ok (.if_icmp .ne 27, 3) := by decide +kernel
theorem dL_refusesAny_610 : decode cL_refusesAny 610 = .ok (.aload_n 0, 1) := by decide +kernel
theorem dL_refusesAny_611 : decode cL_refusesAny 611 = .ok (.iload_n 1, 1) := by decide +kernel
theorem dL_refusesAny_612 : decode cL_refusesAny 612 = .ok (.iconst 2, 1) := by decide +kernel
theorem dL_refusesAny_613 : decode cL_refusesAny 613 = .ok (.irem, 1) := by decide +kernel
theorem dL_refusesAny_614 : decode cL_refusesAny 614 = .ok (.ifCond .ne 7, 3) := by decide +kernel
theorem dL_refusesAny_617 : decode cL_refusesAny 617 = .ok (.iconst (-1), 1) := by decide +kernel
theorem dL_refusesAny_618 : decode cL_refusesAny 618 = .ok (.goto 4, 3) := by decide +kernel
theorem dL_refusesAny_621 : decode cL_refusesAny 621 = .ok (.iconst 2, 1) := by decide +kernel
theorem dL_refusesAny_622 : decode cL_refusesAny 622 = .ok (.invokevirtual 78, 3) := by decide +kernel
theorem dL_refusesAny_625 : decode cL_refusesAny 625 = .ok (.ldc 40, 2) := by decide +kernel
theorem dL_refusesAny_627 : decode cL_refusesAny 627 = .ok (.if_icmp .ne 7, 3) := by decide +kernel
theorem dL_refusesAny_630 : decode cL_refusesAny 630 = .ok (.iconst 1, 1) := by decide +kernel
theorem dL_refusesAny_631 : decode cL_refusesAny 631 = .ok (.goto 4, 3) := by decide +kernel
theorem dL_refusesAny_634 : decode cL_refusesAny 634 = .ok (.iconst 0, 1) := by decide +kernel
theorem dL_refusesAny_635 : decode cL_refusesAny 635 = .ok (.istore 6, 2) := by decide +kernel
theorem dL_refusesAny_637 : decode cL_refusesAny 637 = .ok (.iload 6, 2) := by decide +kernel
theorem dL_refusesAny_639 : decode cL_refusesAny 639 = .ok (.ifCond .eq 30, 3) := by decide +kernel
theorem dL_refusesAny_642 : decode cL_refusesAny 642 = .ok (.aload_n 0, 1) := by decide +kernel
theorem dL_refusesAny_643 : decode cL_refusesAny 643 = .ok (.invokevirtual 81, 3) := by decide +kernel
theorem dL_refusesAny_646 : decode cL_refusesAny 646 = .ok (.ifCond .ne 23, 3) := by decide +kernel
theorem dL_refusesAny_649 : decode cL_refusesAny 649 = .ok (.aload_n 0, 1) := by decide +kernel
theorem dL_refusesAny_650 : decode cL_refusesAny 650 = .ok (.invokevirtual 84, 3) := by decide +kernel
theorem dL_refusesAny_653 : decode cL_refusesAny 653 = .ok (.ldc 87, 2) := by decide +kernel
theorem dL_refusesAny_655 : decode cL_refusesAny 655 = .ok (.if_icmp .ne 14, 3) := by decide +kernel
theorem dL_refusesAny_658 : decode cL_refusesAny 658 = .ok (.aload_n 0, 1) := by decide +kernel
theorem dL_refusesAny_659 : decode cL_refusesAny 659 = .ok (.invokevirtual 88, 3) := by decide +kernel
theorem dL_refusesAny_662 : decode cL_refusesAny 662 = .ok (.ifCond .ne 7, 3) := by decide +kernel
theorem dL_refusesAny_665 : decode cL_refusesAny 665 = .ok (.iconst 1, 1) := by decide +kernel
theorem dL_refusesAny_666 : decode cL_refusesAny 666 = .ok (.goto 4, 3) := by decide +kernel
theorem dL_refusesAny_669 : decode cL_refusesAny 669 = .ok (.iconst 0, 1) := by decide +kernel
theorem dL_refusesAny_670 : decode cL_refusesAny 670 = .ok (.ireturn, 1) := by decide +kernel
