set_option maxRecDepth 20000 in
theorem ggL_law_X2_init : GoodIn wsL_law wsX2_init := goodIn_r _ [8, 9, 10, 11, 12, 13, 14, 15, 16, 17, 18, 19, 20, 21, 22, 23, 24, 25, 26, 27, 28, 469, 470, 471, 472, 473, 474, 475, 487, 488, 489, 490, 491, 492, 493, 494, 495] (by decide +kernel) (by decide +kernel)
set_option maxRecDepth 20000 in
theorem gL_law_X2_init : GoodIn wsL_law (wsX2_init) := ggL_law_X2_init
set_option maxRecDepth 20000 in
theorem ggL_law_X3_init : GoodIn wsL_law wsX3_init := goodIn_r _ [31, 32, 10, 11, 23, 33, 34, 35, 36, 37, 38, 39, 40, 41, 42, 476, 477, 478, 479, 480, 481, 482, 483, 484, 485, 486] (by decide +kernel) (by decide +kernel)
set_option maxRecDepth 20000 in
theorem gL_law_X3_init : GoodIn wsL_law (wsX3_init) := ggL_law_X3_init
set_option maxRecDepth 20000 in
theorem ggL_law_X2_put : GoodIn wsL_law wsX2_put := goodIn_r _ [46, 47, 48, 49, 2, 50, 13, 51, 52, 53, 54, 55, 56, 17, 57, 58, 59, 60, 61, 62, 63, 64, 65, 66, 67, 24, 68, 69, 70, 71, 72, 487, 488, 489, 469, 470, 471, 472, 473, 474, 475] (by decide +kernel) (by decide +kernel)
set_option maxRecDepth 20000 in
theorem gL_law_X2_put : GoodIn wsL_law (wsV RL 13 RX2 yX2_put wsX2_put) := goodIn_app (goodIn_of _ (by decide +kernel)) ggL_law_X2_put
set_option maxRecDepth 20000 in
theorem ggL_law_X3_put : GoodIn wsL_law wsX3_put := goodIn_r _ [76, 34, 77, 78, 5, 79, 80, 81, 82, 83, 84, 85, 86, 87, 88, 89, 90, 91, 92, 93, 94, 33, 95, 96, 97, 98, 99, 100, 101, 102, 41, 36, 476, 477, 478, 479, 480, 481, 482, 483, 484, 485, 486] (by decide +kernel) (by decide +kernel)
set_option maxRecDepth 20000 in
theorem gL_law_X3_put : GoodIn wsL_law (wsV RL 17 RX3 yX3_put wsX3_put) := goodIn_app (goodIn_of _ (by decide +kernel)) ggL_law_X3_put
set_option maxRecDepth 20000 in
theorem ggL_law_X2_end : GoodIn wsL_law wsX2_end := goodIn_r _ [106, 47, 48, 49, 2, 50, 13, 107, 108, 109, 110, 111, 112, 113, 114, 115, 116, 117, 118, 119, 120, 121, 122, 123, 124, 17, 125, 24, 487, 488, 489, 469, 470, 471, 472, 473, 474, 475] (by decide +kernel) (by decide +kernel)
set_option maxRecDepth 20000 in
theorem gL_law_X2_end : GoodIn wsL_law (wsV RL 18 RX2 yX2_end wsX2_end) := goodIn_app (goodIn_of _ (by decide +kernel)) ggL_law_X2_end
set_option maxRecDepth 20000 in
theorem ggL_law_X3_end : GoodIn wsL_law wsX3_end := goodIn_r _ [129, 34, 77, 78, 5, 79, 80, 81, 82, 130, 131, 132, 133, 35, 95, 96, 97, 98, 33, 476, 477, 478, 479, 480, 481, 482, 483, 484, 485, 486] (by decide +kernel) (by decide +kernel)
set_option maxRecDepth 20000 in
theorem gL_law_X3_end : GoodIn wsL_law (wsV RL 22 RX3 yX3_end wsX3_end) := goodIn_app (goodIn_of _ (by decide +kernel)) ggL_law_X3_end
set_option maxRecDepth 20000 in
theorem ggL_law_X2_take : GoodIn wsL_law wsX2_take := goodIn_r _ [137, 47, 48, 49, 2, 50, 13, 107, 108, 109, 110, 111, 112, 113, 114, 115, 116, 117, 118, 119, 120, 121, 138, 139, 140, 17, 141, 24, 58, 142, 143, 144, 145, 72, 487, 488, 489, 469, 470, 471, 472, 473, 474, 475] (by decide +kernel) (by decide +kernel)
set_option maxRecDepth 20000 in
theorem gL_law_X2_take : GoodIn wsL_law (wsV RL 23 RX2 yX2_take wsX2_take) := goodIn_app (goodIn_of _ (by decide +kernel)) ggL_law_X2_take
set_option maxRecDepth 20000 in
theorem ggL_law_X3_take : GoodIn wsL_law wsX3_take := goodIn_r _ [149, 34, 77, 78, 5, 79, 80, 81, 82, 130, 131, 132, 133, 35, 99, 100, 101, 102, 41, 36, 150, 151, 152, 153, 33, 95, 96, 97, 98, 476, 477, 478, 479, 480, 481, 482, 483, 484, 485, 486] (by decide +kernel) (by decide +kernel)
set_option maxRecDepth 20000 in
theorem gL_law_X3_take : GoodIn wsL_law (wsV RL 26 RX3 yX3_take wsX3_take) := goodIn_app (goodIn_of _ (by decide +kernel)) ggL_law_X3_take
set_option maxRecDepth 20000 in
theorem ggL_law_X2_at : GoodIn wsL_law wsX2_at := goodIn_r _ [157, 47, 48, 49, 2, 50, 13, 158, 159, 160, 17, 161, 58, 114, 115, 116, 117, 118, 119, 120, 121, 122, 123, 124, 125, 24, 469, 470, 471, 472, 473, 474, 475, 487, 488, 489] (by decide +kernel) (by decide +kernel)
set_option maxRecDepth 20000 in
theorem gL_law_X2_at : GoodIn wsL_law (wsV RL 27 RX2 yX2_at wsX2_at) := goodIn_app (goodIn_of _ (by decide +kernel)) ggL_law_X2_at
set_option maxRecDepth 20000 in
theorem ggL_law_X3_at : GoodIn wsL_law wsX3_at := goodIn_r _ [165, 34, 77, 78, 5, 79, 80, 81, 82, 95, 96, 97, 98, 33, 130, 131, 132, 133, 35, 476, 477, 478, 479, 480, 481, 482, 483, 484, 485, 486] (by decide +kernel) (by decide +kernel)
set_option maxRecDepth 20000 in
theorem gL_law_X3_at : GoodIn wsL_law (wsV RL 31 RX3 yX3_at wsX3_at) := goodIn_app (goodIn_of _ (by decide +kernel)) ggL_law_X3_at
set_option maxRecDepth 20000 in
theorem ggL_law_X2_lay : GoodIn wsL_law wsX2_lay := goodIn_r _ [169, 47, 48, 49, 2, 50, 13, 51, 52, 53, 158, 159, 160, 17, 161, 58, 114, 115, 116, 117, 118, 119, 120, 121, 59, 60, 61, 62, 63, 170, 171, 172, 173, 24, 469, 470, 471, 472, 473, 474, 475, 487, 488, 489] (by decide +kernel) (by decide +kernel)
set_option maxRecDepth 20000 in
theorem gL_law_X2_lay : GoodIn wsL_law (wsV RL 32 RX2 yX2_lay wsX2_lay) := goodIn_app (goodIn_of _ (by decide +kernel)) ggL_law_X2_lay
set_option maxRecDepth 20000 in
theorem ggL_law_X3_lay : GoodIn wsL_law wsX3_lay := goodIn_r _ [177, 34, 33, 77, 78, 5, 79, 80, 81, 82, 83, 84, 85, 130, 131, 132, 133, 35, 95, 96, 97, 98, 86, 87, 88, 89, 90, 476, 477, 478, 479, 480, 481, 482, 483, 484, 485, 486] (by decide +kernel) (by decide +kernel)
set_option maxRecDepth 20000 in
theorem gL_law_X3_lay : GoodIn wsL_law (wsV RL 36 RX3 yX3_lay wsX3_lay) := goodIn_app (goodIn_of _ (by decide +kernel)) ggL_law_X3_lay
set_option maxRecDepth 20000 in
theorem ggL_law_X2_insert : GoodIn wsL_law wsX2_insert := goodIn_r _ [181, 47, 48, 49, 2, 50, 13, 51, 52, 53, 54, 55, 56, 17, 57, 58, 182, 183, 184, 185, 114, 115, 116, 117, 118, 119, 120, 121, 59, 60, 61, 62, 63, 64, 65, 66, 67, 24, 68, 69, 70, 71, 72, 487, 488, 489, 469, 470, 471, 472, 473, 474, 475] (by decide +kernel) (by decide +kernel)
set_option maxRecDepth 20000 in
theorem gL_law_X2_insert : GoodIn wsL_law (wsV RL 37 RX2 yX2_insert wsX2_insert) := goodIn_app (goodIn_of _ (by decide +kernel)) ggL_law_X2_insert
set_option maxRecDepth 20000 in
theorem ggL_law_X3_insert : GoodIn wsL_law wsX3_insert := goodIn_r _ [189, 34, 77, 78, 5, 79, 80, 81, 82, 83, 84, 85, 130, 131, 132, 133, 35, 86, 87, 88, 89, 90, 91, 92, 93, 94, 33, 95, 96, 97, 98, 99, 100, 101, 102, 41, 36, 476, 477, 478, 479, 480, 481, 482, 483, 484, 485, 486] (by decide +kernel) (by decide +kernel)
set_option maxRecDepth 20000 in
theorem gL_law_X3_insert : GoodIn wsL_law (wsV RL 40 RX3 yX3_insert wsX3_insert) := goodIn_app (goodIn_of _ (by decide +kernel)) ggL_law_X3_insert
set_option maxRecDepth 20000 in
theorem ggL_law_X2_drop : GoodIn wsL_law wsX2_drop := goodIn_r _ [193, 47, 48, 49, 2, 50, 13, 158, 159, 160, 17, 161, 58, 114, 115, 116, 117, 118, 119, 120, 121, 138, 139, 140, 141, 24, 142, 143, 144, 145, 72, 469, 470, 471, 472, 473, 474, 475, 487, 488, 489] (by decide +kernel) (by decide +kernel)
set_option maxRecDepth 20000 in
theorem gL_law_X2_drop : GoodIn wsL_law (wsV RL 41 RX2 yX2_drop wsX2_drop) := goodIn_app (goodIn_of _ (by decide +kernel)) ggL_law_X2_drop
set_option maxRecDepth 20000 in
theorem ggL_law_X3_drop : GoodIn wsL_law wsX3_drop := goodIn_r _ [197, 34, 77, 78, 5, 79, 80, 81, 82, 130, 131, 132, 133, 35, 99, 100, 101, 102, 41, 36, 150, 151, 152, 153, 33, 95, 96, 97, 98, 476, 477, 478, 479, 480, 481, 482, 483, 484, 485, 486] (by decide +kernel) (by decide +kernel)
set_option maxRecDepth 20000 in
theorem gL_law_X3_drop : GoodIn wsL_law (wsV RL 44 RX3 yX3_drop wsX3_drop) := goodIn_app (goodIn_of _ (by decide +kernel)) ggL_law_X3_drop
set_option maxRecDepth 20000 in
theorem ggL_law_X2_find : GoodIn wsL_law wsX2_find := goodIn_r _ [201, 47, 48, 49, 2, 50, 13, 51, 52, 53, 202, 203, 204, 17, 205, 58, 24, 469, 470, 471, 472, 473, 474, 475, 487, 488, 489] (by decide +kernel) (by decide +kernel)
set_option maxRecDepth 20000 in
theorem gL_law_X2_find : GoodIn wsL_law (wsV RL 45 RX2 yX2_find wsX2_find) := goodIn_app (goodIn_of _ (by decide +kernel)) ggL_law_X2_find
set_option maxRecDepth 20000 in
theorem ggL_law_X3_find : GoodIn wsL_law wsX3_find := goodIn_r _ [209, 77, 78, 5, 79, 80, 81, 82, 83, 84, 85, 210, 211, 212, 213, 34, 95, 96, 97, 98, 33, 476, 477, 478, 479, 480, 481, 482, 483, 484, 485, 486] (by decide +kernel) (by decide +kernel)
set_option maxRecDepth 20000 in
theorem gL_law_X3_find : GoodIn wsL_law (wsV RL 49 RX3 yX3_find wsX3_find) := goodIn_app (goodIn_of _ (by decide +kernel)) ggL_law_X3_find
set_option maxRecDepth 20000 in
theorem ggL_law_X2_has : GoodIn wsL_law wsX2_has := goodIn_r _ [217, 47, 48, 49, 2, 50, 13, 51, 52, 53, 202, 203, 204, 17, 205, 58, 24, 218, 219, 220, 469, 470, 471, 472, 473, 474, 475, 487, 488, 489] (by decide +kernel) (by decide +kernel)
set_option maxRecDepth 20000 in
theorem gL_law_X2_has : GoodIn wsL_law (wsV RL 50 RX2 yX2_has wsX2_has) := goodIn_app (goodIn_of _ (by decide +kernel)) ggL_law_X2_has
set_option maxRecDepth 20000 in
theorem ggL_law_X3_has : GoodIn wsL_law wsX3_has := goodIn_r _ [224, 77, 78, 5, 79, 80, 81, 82, 83, 84, 85, 210, 211, 212, 213, 34, 95, 96, 97, 98, 33, 476, 477, 478, 479, 480, 481, 482, 483, 484, 485, 486] (by decide +kernel) (by decide +kernel)
set_option maxRecDepth 20000 in
theorem gL_law_X3_has : GoodIn wsL_law (wsV RL 53 RX3 yX3_has wsX3_has) := goodIn_app (goodIn_of _ (by decide +kernel)) ggL_law_X3_has
set_option maxRecDepth 20000 in
theorem ggL_law_X2_lose : GoodIn wsL_law wsX2_lose := goodIn_r _ [228, 47, 48, 49, 2, 50, 13, 51, 52, 53, 202, 203, 204, 17, 205, 58, 24, 138, 139, 140, 141, 142, 143, 144, 145, 72, 469, 470, 471, 472, 473, 474, 475, 487, 488, 489] (by decide +kernel) (by decide +kernel)
set_option maxRecDepth 20000 in
theorem gL_law_X2_lose : GoodIn wsL_law (wsV RL 54 RX2 yX2_lose wsX2_lose) := goodIn_app (goodIn_of _ (by decide +kernel)) ggL_law_X2_lose
set_option maxRecDepth 20000 in
theorem ggL_law_X3_lose : GoodIn wsL_law wsX3_lose := goodIn_r _ [232, 77, 78, 5, 79, 80, 81, 82, 83, 84, 85, 210, 211, 212, 213, 34, 95, 96, 97, 98, 33, 150, 151, 152, 153, 99, 100, 101, 102, 41, 36, 476, 477, 478, 479, 480, 481, 482, 483, 484, 485, 486] (by decide +kernel) (by decide +kernel)
set_option maxRecDepth 20000 in
theorem gL_law_X3_lose : GoodIn wsL_law (wsV RL 57 RX3 yX3_lose wsX3_lose) := goodIn_app (goodIn_of _ (by decide +kernel)) ggL_law_X3_lose
set_option maxRecDepth 20000 in
theorem ggL_law_X2_all : GoodIn wsL_law wsX2_all := goodIn_r _ [236, 47, 48, 49, 2, 50, 13, 54, 55, 56, 17, 57, 58, 182, 183, 184, 185, 114, 115, 116, 117, 118, 119, 120, 121, 237, 238, 239, 240, 24, 68, 69, 70, 71, 72, 487, 488, 489, 469, 470, 471, 472, 473, 474, 475] (by decide +kernel) (by decide +kernel)
set_option maxRecDepth 20000 in
theorem gL_law_X2_all : GoodIn wsL_law (wsV RL 58 RX2 yX2_all wsX2_all) := goodIn_app (goodIn_of _ (by decide +kernel)) ggL_law_X2_all
set_option maxRecDepth 20000 in
theorem ggL_law_X3_all : GoodIn wsL_law wsX3_all := goodIn_r _ [244, 34, 245, 246, 5, 247, 77, 78, 79, 80, 81, 82, 130, 131, 132, 133, 35, 95, 96, 97, 98, 33, 91, 92, 93, 94, 99, 100, 101, 102, 41, 36, 476, 477, 478, 479, 480, 481, 482, 483, 484, 485, 486] (by decide +kernel) (by decide +kernel)
set_option maxRecDepth 20000 in
theorem gL_law_X3_all : GoodIn wsL_law (wsV RL 61 RX3 yX3_all wsX3_all) := goodIn_app (goodIn_of _ (by decide +kernel)) ggL_law_X3_all
set_option maxRecDepth 20000 in
theorem ggL_law_X2_clear : GoodIn wsL_law wsX2_clear := goodIn_r _ [251, 47, 48, 49, 2, 50, 13, 252, 143, 144, 17, 145, 58, 72, 487, 488, 489, 469, 470, 471, 472, 473, 474, 475] (by decide +kernel) (by decide +kernel)
set_option maxRecDepth 20000 in
theorem gL_law_X2_clear : GoodIn wsL_law (wsV RL 62 RX2 yX2_clear wsX2_clear) := goodIn_app (goodIn_of _ (by decide +kernel)) ggL_law_X2_clear
set_option maxRecDepth 20000 in
theorem ggL_law_X3_clear : GoodIn wsL_law wsX3_clear := goodIn_r _ [256, 34, 77, 78, 5, 79, 80, 81, 82, 99, 100, 101, 102, 41, 36, 476, 477, 478, 479, 480, 481, 482, 483, 484, 485, 486] (by decide +kernel) (by decide +kernel)
set_option maxRecDepth 20000 in
theorem gL_law_X3_clear : GoodIn wsL_law (wsV RL 66 RX3 yX3_clear wsX3_clear) := goodIn_app (goodIn_of _ (by decide +kernel)) ggL_law_X3_clear
set_option maxRecDepth 20000 in
theorem ggL_law_X2_copy : GoodIn wsL_law wsX2_copy := goodIn_r _ [260, 15, 47, 48, 49, 2, 50, 13, 261, 262, 263, 19, 264, 265, 266, 267, 268, 17, 269, 58, 24, 469, 470, 471, 472, 473, 474, 475, 487, 488, 489, 490, 491, 492, 493, 494, 495] (by decide +kernel) (by decide +kernel)
set_option maxRecDepth 20000 in
theorem gL_law_X2_copy : GoodIn wsL_law (wsV RL 67 RX2 yX2_copy wsX2_copy) := goodIn_app (goodIn_of _ (by decide +kernel)) ggL_law_X2_copy
set_option maxRecDepth 20000 in
theorem ggL_law_X3_copy : GoodIn wsL_law wsX3_copy := goodIn_r _ [273, 36, 34, 33, 245, 246, 5, 247, 77, 78, 79, 80, 81, 82, 274, 275, 276, 277, 38, 40, 41, 95, 96, 97, 98, 476, 477, 478, 479, 480, 481, 482, 483, 484, 485, 486] (by decide +kernel) (by decide +kernel)
set_option maxRecDepth 20000 in
theorem gL_law_X3_copy : GoodIn wsL_law (wsV RL 70 RX3 yX3_copy wsX3_copy) := goodIn_app (goodIn_of _ (by decide +kernel)) ggL_law_X3_copy
set_option maxRecDepth 20000 in
theorem ggL_law_X2_turn : GoodIn wsL_law wsX2_turn := goodIn_r _ [281, 47, 48, 49, 2, 50, 13, 282, 283, 284, 17, 285, 58, 24, 286, 171, 172, 173, 487, 488, 489, 469, 470, 471, 472, 473, 474, 475] (by decide +kernel) (by decide +kernel)
set_option maxRecDepth 20000 in
theorem gL_law_X2_turn : GoodIn wsL_law (wsV RL 71 RX2 yX2_turn wsX2_turn) := goodIn_app (goodIn_of _ (by decide +kernel)) ggL_law_X2_turn
set_option maxRecDepth 20000 in
theorem ggL_law_X3_turn : GoodIn wsL_law wsX3_turn := goodIn_r _ [290, 34, 42, 33, 77, 78, 5, 79, 80, 81, 82, 95, 96, 97, 98, 476, 477, 478, 479, 480, 481, 482, 483, 484, 485, 486] (by decide +kernel) (by decide +kernel)
set_option maxRecDepth 20000 in
theorem gL_law_X3_turn : GoodIn wsL_law (wsV RL 74 RX3 yX3_turn wsX3_turn) := goodIn_app (goodIn_of _ (by decide +kernel)) ggL_law_X3_turn
set_option maxRecDepth 20000 in
theorem ggL_law_X2_weave : GoodIn wsL_law wsX2_weave := goodIn_r _ [294, 47, 48, 49, 2, 50, 13, 54, 55, 56, 17, 57, 58, 295, 296, 297, 298, 299, 300, 301, 302, 24, 68, 69, 70, 71, 72, 487, 488, 489, 469, 470, 471, 472, 473, 474, 475] (by decide +kernel) (by decide +kernel)
set_option maxRecDepth 20000 in
theorem gL_law_X2_weave : GoodIn wsL_law (wsV RL 75 RX2 yX2_weave wsX2_weave) := goodIn_app (goodIn_of _ (by decide +kernel)) ggL_law_X2_weave
set_option maxRecDepth 20000 in
theorem ggL_law_X3_weave : GoodIn wsL_law wsX3_weave := goodIn_r _ [306, 34, 42, 33, 245, 246, 5, 247, 77, 78, 79, 80, 81, 82, 95, 96, 97, 98, 99, 100, 101, 102, 41, 36, 476, 477, 478, 479, 480, 481, 482, 483, 484, 485, 486] (by decide +kernel) (by decide +kernel)
set_option maxRecDepth 20000 in
theorem gL_law_X3_weave : GoodIn wsL_law (wsV RL 78 RX3 yX3_weave wsX3_weave) := goodIn_app (goodIn_of _ (by decide +kernel)) ggL_law_X3_weave
set_option maxRecDepth 20000 in
theorem ggL_law_X2_prune : GoodIn wsL_law wsX2_prune := goodIn_r _ [310, 47, 48, 49, 2, 50, 13, 311, 312, 313, 17, 314, 58, 24, 142, 143, 144, 145, 72, 469, 470, 471, 472, 473, 474, 475, 487, 488, 489] (by decide +kernel) (by decide +kernel)
set_option maxRecDepth 20000 in
theorem gL_law_X2_prune : GoodIn wsL_law (wsV RL 79 RX2 yX2_prune wsX2_prune) := goodIn_app (goodIn_of _ (by decide +kernel)) ggL_law_X2_prune
set_option maxRecDepth 20000 in
theorem ggL_law_X3_prune : GoodIn wsL_law wsX3_prune := goodIn_r _ [318, 34, 33, 77, 78, 5, 79, 80, 81, 82, 95, 96, 97, 98, 99, 100, 101, 102, 41, 36, 476, 477, 478, 479, 480, 481, 482, 483, 484, 485, 486] (by decide +kernel) (by decide +kernel)
set_option maxRecDepth 20000 in
theorem gL_law_X3_prune : GoodIn wsL_law (wsV RL 82 RX3 yX3_prune wsX3_prune) := goodIn_app (goodIn_of _ (by decide +kernel)) ggL_law_X3_prune
set_option maxRecDepth 20000 in
theorem ggL_law_X2_size : GoodIn wsL_law wsX2_size := goodIn_r _ [322, 47, 48, 49, 2, 50, 13, 487, 488, 489, 469, 470, 471, 472, 473, 474, 475] (by decide +kernel) (by decide +kernel)
set_option maxRecDepth 20000 in
theorem gL_law_X2_size : GoodIn wsL_law (wsV RL 83 RX2 yX2_size wsX2_size) := goodIn_app (goodIn_of _ (by decide +kernel)) ggL_law_X2_size
set_option maxRecDepth 20000 in
theorem ggL_law_X3_size : GoodIn wsL_law wsX3_size := goodIn_r _ [326, 34, 77, 78, 5, 79, 80, 81, 82, 476, 477, 478, 479, 480, 481, 482, 483, 484, 485, 486] (by decide +kernel) (by decide +kernel)
set_option maxRecDepth 20000 in
theorem gL_law_X3_size : GoodIn wsL_law (wsV RL 86 RX3 yX3_size wsX3_size) := goodIn_app (goodIn_of _ (by decide +kernel)) ggL_law_X3_size
set_option maxRecDepth 20000 in
theorem ggL_law_X2_sum : GoodIn wsL_law wsX2_sum := goodIn_r _ [330, 47, 48, 49, 2, 50, 13, 331, 332, 333, 17, 334, 58, 24, 335, 469, 470, 471, 472, 473, 474, 475, 487, 488, 489] (by decide +kernel) (by decide +kernel)
set_option maxRecDepth 20000 in
theorem gL_law_X2_sum : GoodIn wsL_law (wsV RL 87 RX2 yX2_sum wsX2_sum) := goodIn_app (goodIn_of _ (by decide +kernel)) ggL_law_X2_sum
set_option maxRecDepth 20000 in
theorem ggL_law_X3_sum : GoodIn wsL_law wsX3_sum := goodIn_r _ [339, 34, 340, 77, 78, 5, 79, 80, 81, 82, 95, 96, 97, 98, 33, 476, 477, 478, 479, 480, 481, 482, 483, 484, 485, 486] (by decide +kernel) (by decide +kernel)
set_option maxRecDepth 20000 in
theorem gL_law_X3_sum : GoodIn wsL_law (wsV RL 90 RX3 yX3_sum wsX3_sum) := goodIn_app (goodIn_of _ (by decide +kernel)) ggL_law_X3_sum
set_option maxRecDepth 20000 in
theorem ggL_law_X2_peg : GoodIn wsL_law wsX2_peg := goodIn_r _ [344, 345, 346, 347, 2, 348, 15, 47, 48, 49, 50, 13, 182, 183, 184, 17, 185, 58, 114, 115, 116, 117, 118, 119, 120, 121, 349, 350, 351, 19, 352, 265, 353, 354, 28, 355, 469, 470, 471, 472, 473, 474, 475, 487, 488, 489, 490, 491, 492, 493, 494, 495] (by decide +kernel) (by decide +kernel)
set_option maxRecDepth 20000 in
theorem gL_law_X2_peg : GoodIn wsL_law (wsV RL 91 RX2 yX2_peg wsX2_peg) := goodIn_app (goodIn_of _ (by decide +kernel)) ggL_law_X2_peg
set_option maxRecDepth 20000 in
theorem ggL_law_X3_peg : GoodIn wsL_law wsX3_peg := goodIn_r _ [359, 34, 36, 37, 360, 361, 5, 362, 80, 81, 82, 77, 78, 79, 130, 131, 132, 133, 35, 274, 275, 276, 277, 38, 40, 41, 476, 477, 478, 479, 480, 481, 482, 483, 484, 485, 486] (by decide +kernel) (by decide +kernel)
set_option maxRecDepth 20000 in
theorem gL_law_X3_peg : GoodIn wsL_law (wsV RL 94 RX3 yX3_peg wsX3_peg) := goodIn_app (goodIn_of _ (by decide +kernel)) ggL_law_X3_peg
set_option maxRecDepth 20000 in
theorem ggL_law_X2_next : GoodIn wsL_law wsX2_next := goodIn_r _ [366, 367, 368, 369, 2, 370, 345, 346, 347, 348, 15, 371, 372, 373, 19, 374, 265, 354, 353, 375, 183, 184, 17, 185, 58, 114, 115, 116, 117, 118, 119, 120, 121, 158, 159, 160, 161, 122, 123, 124, 125, 24, 376, 377, 378, 379, 28, 380, 355, 490, 491, 492, 493, 494, 495, 469, 470, 471, 472, 473, 474, 475, 487, 488, 489] (by decide +kernel) (by decide +kernel)
set_option maxRecDepth 20000 in
theorem gL_law_X2_next : GoodIn wsL_law (wsV RL 95 RX2 yX2_next wsX2_next) := goodIn_app (goodIn_of _ (by decide +kernel)) ggL_law_X2_next
set_option maxRecDepth 20000 in
theorem ggL_law_X3_next : GoodIn wsL_law wsX3_next := goodIn_r _ [384, 37, 360, 361, 5, 362, 80, 81, 82, 385, 386, 387, 388, 36, 41, 130, 131, 132, 133, 35, 389, 390, 391, 392, 34, 40, 38, 39, 95, 96, 97, 98, 33, 476, 477, 478, 479, 480, 481, 482, 483, 484, 485, 486] (by decide +kernel) (by decide +kernel)
set_option maxRecDepth 20000 in
theorem gL_law_X3_next : GoodIn wsL_law (wsV RL 98 RX3 yX3_next wsX3_next) := goodIn_app (goodIn_of _ (by decide +kernel)) ggL_law_X3_next
set_option maxRecDepth 20000 in
theorem ggL_law_X2_previous : GoodIn wsL_law wsX2_previous := goodIn_r _ [396, 367, 368, 369, 2, 370, 345, 346, 347, 348, 15, 371, 372, 373, 19, 374, 265, 354, 353, 375, 183, 184, 17, 185, 58, 114, 115, 116, 117, 118, 119, 120, 121, 158, 159, 160, 161, 122, 123, 124, 125, 24, 376, 377, 378, 379, 28, 380, 355, 490, 491, 492, 493, 494, 495, 469, 470, 471, 472, 473, 474, 475, 487, 488, 489] (by decide +kernel) (by decide +kernel)
set_option maxRecDepth 20000 in
theorem gL_law_X2_previous : GoodIn wsL_law (wsV RL 99 RX2 yX2_previous wsX2_previous) := goodIn_app (goodIn_of _ (by decide +kernel)) ggL_law_X2_previous
set_option maxRecDepth 20000 in
theorem ggL_law_X3_previous : GoodIn wsL_law wsX3_previous := goodIn_r _ [400, 37, 360, 361, 5, 362, 80, 81, 82, 385, 386, 387, 388, 36, 41, 130, 131, 132, 133, 35, 389, 390, 391, 392, 34, 40, 38, 39, 95, 96, 97, 98, 33, 476, 477, 478, 479, 480, 481, 482, 483, 484, 485, 486] (by decide +kernel) (by decide +kernel)
set_option maxRecDepth 20000 in
theorem gL_law_X3_previous : GoodIn wsL_law (wsV RL 102 RX3 yX3_previous wsX3_previous) := goodIn_app (goodIn_of _ (by decide +kernel)) ggL_law_X3_previous
set_option maxRecDepth 20000 in
theorem ggL_law_X2_side : GoodIn wsL_law wsX2_side := goodIn_r _ [404, 345, 346, 347, 2, 348, 15, 371, 372, 373, 19, 374, 265, 354, 353, 375, 183, 184, 17, 185, 58, 218, 219, 220, 490, 491, 492, 493, 494, 495, 487, 488, 489, 469, 470, 471, 472, 473, 474, 475] (by decide +kernel) (by decide +kernel)
set_option maxRecDepth 20000 in
theorem gL_law_X2_side : GoodIn wsL_law (wsV RL 103 RX2 yX2_side wsX2_side) := goodIn_app (goodIn_of _ (by decide +kernel)) ggL_law_X2_side
set_option maxRecDepth 20000 in
theorem ggL_law_X3_side : GoodIn wsL_law wsX3_side := goodIn_r _ [408, 36, 41, 37, 34, 360, 361, 5, 362, 80, 81, 82, 476, 477, 478, 479, 480, 481, 482, 483, 484, 485, 486] (by decide +kernel) (by decide +kernel)
set_option maxRecDepth 20000 in
theorem gL_law_X3_side : GoodIn wsL_law (wsV RL 106 RX3 yX3_side wsX3_side) := goodIn_app (goodIn_of _ (by decide +kernel)) ggL_law_X3_side
set_option maxRecDepth 20000 in
theorem ggL_law_X2_change : GoodIn wsL_law wsX2_change := goodIn_r _ [412, 345, 346, 347, 2, 348, 15, 51, 52, 53, 413, 414, 415, 416, 371, 372, 373, 19, 374, 265, 354, 353, 375, 183, 184, 17, 185, 58, 114, 115, 116, 117, 118, 119, 120, 121, 158, 159, 160, 161, 122, 123, 124, 125, 24, 59, 60, 61, 62, 63, 376, 377, 378, 379, 28, 380, 355, 170, 171, 172, 173, 490, 491, 492, 493, 494, 495, 469, 470, 471, 472, 473, 474, 475, 487, 488, 489] (by decide +kernel) (by decide +kernel)
set_option maxRecDepth 20000 in
theorem gL_law_X2_change : GoodIn wsL_law (wsV RL 107 RX2 yX2_change wsX2_change) := goodIn_app (goodIn_of _ (by decide +kernel)) ggL_law_X2_change
set_option maxRecDepth 20000 in
theorem ggL_law_X3_change : GoodIn wsL_law wsX3_change := goodIn_r _ [420, 38, 33, 36, 39, 360, 361, 5, 362, 80, 81, 82, 83, 84, 85, 421, 422, 423, 424, 40, 385, 386, 387, 388, 41, 130, 131, 132, 133, 35, 95, 96, 97, 98, 86, 87, 88, 89, 90, 476, 477, 478, 479, 480, 481, 482, 483, 484, 485, 486] (by decide +kernel) (by decide +kernel)
set_option maxRecDepth 20000 in
theorem gL_law_X3_change : GoodIn wsL_law (wsV RL 110 RX3 yX3_change wsX3_change) := goodIn_app (goodIn_of _ (by decide +kernel)) ggL_law_X3_change
set_option maxRecDepth 20000 in
theorem ggL_law_X2_add : GoodIn wsL_law wsX2_add := goodIn_r _ [428, 345, 346, 347, 2, 348, 15, 51, 52, 53, 54, 55, 56, 17, 57, 58, 371, 372, 373, 19, 374, 265, 354, 353, 375, 183, 184, 185, 114, 115, 116, 117, 118, 119, 120, 121, 59, 60, 61, 62, 63, 64, 65, 66, 67, 24, 68, 69, 70, 71, 72, 349, 350, 351, 352, 28, 355, 490, 491, 492, 493, 494, 495, 487, 488, 489, 469, 470, 471, 472, 473, 474, 475] (by decide +kernel) (by decide +kernel)
set_option maxRecDepth 20000 in
theorem gL_law_X2_add : GoodIn wsL_law (wsV RL 111 RX2 yX2_add wsX2_add) := goodIn_app (goodIn_of _ (by decide +kernel)) ggL_law_X2_add
set_option maxRecDepth 20000 in
theorem ggL_law_X3_add : GoodIn wsL_law wsX3_add := goodIn_r _ [432, 36, 34, 37, 38, 40, 360, 361, 5, 362, 80, 81, 82, 83, 84, 85, 385, 386, 387, 388, 41, 130, 131, 132, 133, 35, 86, 87, 88, 89, 90, 91, 92, 93, 94, 33, 95, 96, 97, 98, 99, 100, 101, 102, 476, 477, 478, 479, 480, 481, 482, 483, 484, 485, 486] (by decide +kernel) (by decide +kernel)
set_option maxRecDepth 20000 in
theorem gL_law_X3_add : GoodIn wsL_law (wsV RL 114 RX3 yX3_add wsX3_add) := goodIn_app (goodIn_of _ (by decide +kernel)) ggL_law_X3_add
set_option maxRecDepth 20000 in
theorem ggL_law_X2_remove : GoodIn wsL_law wsX2_remove := goodIn_r _ [436, 345, 346, 347, 2, 348, 15, 413, 414, 415, 416, 371, 372, 373, 19, 374, 265, 354, 353, 375, 183, 184, 17, 185, 58, 114, 115, 116, 117, 118, 119, 120, 121, 158, 159, 160, 161, 122, 123, 124, 125, 24, 138, 139, 140, 141, 142, 143, 144, 145, 72, 349, 350, 351, 352, 28, 355, 490, 491, 492, 493, 494, 495, 469, 470, 471, 472, 473, 474, 475, 487, 488, 489] (by decide +kernel) (by decide +kernel)
set_option maxRecDepth 20000 in
theorem gL_law_X2_remove : GoodIn wsL_law (wsV RL 115 RX2 yX2_remove wsX2_remove) := goodIn_app (goodIn_of _ (by decide +kernel)) ggL_law_X2_remove
set_option maxRecDepth 20000 in
theorem ggL_law_X3_remove : GoodIn wsL_law wsX3_remove := goodIn_r _ [440, 36, 39, 37, 38, 360, 361, 5, 362, 80, 81, 82, 421, 422, 423, 424, 40, 385, 386, 387, 388, 41, 130, 131, 132, 133, 35, 95, 96, 97, 98, 33, 150, 151, 152, 153, 34, 99, 100, 101, 102, 476, 477, 478, 479, 480, 481, 482, 483, 484, 485, 486] (by decide +kernel) (by decide +kernel)
set_option maxRecDepth 20000 in
theorem gL_law_X3_remove : GoodIn wsL_law (wsV RL 118 RX3 yX3_remove wsX3_remove) := goodIn_app (goodIn_of _ (by decide +kernel)) ggL_law_X3_remove
set_option maxRecDepth 20000 in
theorem ggL_law_X2_old : GoodIn wsL_law wsX2_old := goodIn_r _ [444, 345, 346, 347, 2, 348, 15, 371, 372, 373, 19, 374, 265, 354, 353, 375, 183, 184, 17, 185, 58, 218, 219, 220, 490, 491, 492, 493, 494, 495, 469, 470, 471, 472, 473, 474, 475, 487, 488, 489] (by decide +kernel) (by decide +kernel)
set_option maxRecDepth 20000 in
theorem gL_law_X2_old : GoodIn wsL_law (wsV RL 119 RX2 yX2_old wsX2_old) := goodIn_app (goodIn_of _ (by decide +kernel)) ggL_law_X2_old
set_option maxRecDepth 20000 in
theorem ggL_law_X3_old : GoodIn wsL_law wsX3_old := goodIn_r _ [448, 36, 41, 360, 361, 5, 362, 80, 81, 82, 476, 477, 478, 479, 480, 481, 482, 483, 484, 485, 486] (by decide +kernel) (by decide +kernel)
set_option maxRecDepth 20000 in
theorem gL_law_X3_old : GoodIn wsL_law (wsV RL 122 RX3 yX3_old wsX3_old) := goodIn_app (goodIn_of _ (by decide +kernel)) ggL_law_X3_old
set_option maxRecDepth 20000 in
theorem ggL_law_X2_count : GoodIn wsL_law wsX2_count := goodIn_r _ [452, 63, 118, 119, 120, 121, 453, 454, 455, 2, 456, 15, 457, 458, 459, 460, 371, 372, 373, 19, 374, 265, 354, 353, 375, 183, 184, 17, 185, 58, 469, 470, 471, 472, 473, 474, 475, 490, 491, 492, 493, 494, 495, 487, 488, 489] (by decide +kernel) (by decide +kernel)
set_option maxRecDepth 20000 in
theorem gL_law_X2_count : GoodIn wsL_law (wsV RL 123 RX2 yX2_count wsX2_count) := goodIn_app (goodIn_of _ (by decide +kernel)) ggL_law_X2_count
set_option maxRecDepth 20000 in
theorem ggL_law_X3_count : GoodIn wsL_law wsX3_count := goodIn_r _ [464, 90, 35, 41, 80, 81, 5, 82, 465, 466, 467, 468, 36, 476, 477, 478, 479, 480, 481, 482, 483, 484, 485, 486] (by decide +kernel) (by decide +kernel)
set_option maxRecDepth 20000 in
theorem gL_law_X3_count : GoodIn wsL_law (wsV RL 126 RX3 yX3_count wsX3_count) := goodIn_app (goodIn_of _ (by decide +kernel)) ggL_law_X3_count
