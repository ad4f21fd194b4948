set_option maxRecDepth 20000 in
theorem ggL_law_X6_release : GoodIn wsL_law wsX6_release := goodIn_ca (goodIn_r _ [621, 94, 210, 211, 212, 5, 213, 165, 166, 167, 168, 169, 170, 171, 172, 173, 1275, 1276, 1277, 1278, 1279, 1280, 1281, 1282, 1283] (by decide +kernel) (by decide +kernel)) (goodIn_sub (fun _ h => List.mem_append_left _ (List.mem_append_left _ (List.mem_append_left _ (List.mem_append_left _ (List.mem_append_left _ (List.mem_append_left _ (List.mem_append_right _ h))))))) (by decide +kernel))
set_option maxRecDepth 20000 in
theorem gL_law_X6_release : GoodIn wsL_law (wsV RL 183 RX6 yX6_release wsX6_release) := goodIn_app (goodIn_of _ (by decide +kernel)) ggL_law_X6_release
set_option maxRecDepth 20000 in
theorem ggL_law_L_postOf : GoodIn wsL_law wsL_postOf := goodIn_ca (goodIn_ca (goodIn_r _ [624, 195, 625, 626, 627, 2, 628, 31, 200, 201, 202, 203, 204, 205, 17, 153, 1268, 1269, 1270, 1271, 1272, 1273, 1274, 1284, 1285, 1286, 1287, 1288, 1289, 1290] (by decide +kernel) (by decide +kernel)) (goodIn_sub (fun _ h => List.mem_append_left _ (List.mem_append_left _ (List.mem_append_left _ (List.mem_append_left _ (List.mem_append_left _ (List.mem_append_left _ (List.mem_append_right _ h))))))) (by decide +kernel))) (goodIn_sub (fun _ h => List.mem_append_left _ (List.mem_append_left _ (List.mem_append_left _ (List.mem_append_right _ h)))) (by decide +kernel))
set_option maxRecDepth 20000 in
theorem gL_law_L_postOf : GoodIn wsL_law (va_wsS RL 184 yL_postOf wsL_postOf) := goodIn_app (goodIn_of _ (by decide +kernel)) ggL_law_L_postOf
set_option maxRecDepth 20000 in
theorem ggL_law_X6_postOf : GoodIn wsL_law wsX6_postOf := goodIn_ca (goodIn_r _ [632, 94, 210, 211, 212, 5, 213, 165, 166, 167, 168, 169, 170, 171, 172, 173, 1275, 1276, 1277, 1278, 1279, 1280, 1281, 1282, 1283] (by decide +kernel) (by decide +kernel)) (goodIn_sub (fun _ h => List.mem_append_left _ (List.mem_append_left _ (List.mem_append_left _ (List.mem_append_left _ (List.mem_append_left _ (List.mem_append_left _ (List.mem_append_right _ h))))))) (by decide +kernel))
set_option maxRecDepth 20000 in
theorem gL_law_X6_postOf : GoodIn wsL_law (wsV RL 186 RX6 yX6_postOf wsX6_postOf) := goodIn_app (goodIn_of _ (by decide +kernel)) ggL_law_X6_postOf
set_option maxRecDepth 20000 in
theorem ggL_law_L_freeOf : GoodIn wsL_law wsL_freeOf := goodIn_ca (goodIn_ca (goodIn_r _ [635, 195, 636, 637, 638, 2, 639, 224, 225, 226, 227, 204, 205, 17, 185, 603, 604, 605, 606, 186, 31, 228, 229, 230, 16, 231, 38, 1268, 1269, 1270, 1271, 1272, 1273, 1274, 1284, 1285, 1286, 1287, 1288, 1289, 1290] (by decide +kernel) (by decide +kernel)) (goodIn_sub (fun _ h => List.mem_append_left _ (List.mem_append_left _ (List.mem_append_left _ (List.mem_append_left _ (List.mem_append_left _ (List.mem_append_left _ (List.mem_append_right _ h))))))) (by decide +kernel))) (goodIn_sub (fun _ h => List.mem_append_left _ (List.mem_append_left _ (List.mem_append_left _ (List.mem_append_right _ h)))) (by decide +kernel))
set_option maxRecDepth 20000 in
theorem gL_law_L_freeOf : GoodIn wsL_law (va_wsS RL 187 yL_freeOf wsL_freeOf) := goodIn_app (goodIn_of _ (by decide +kernel)) ggL_law_L_freeOf
set_option maxRecDepth 20000 in
theorem ggL_law_X6_freeOf : GoodIn wsL_law wsX6_freeOf := goodIn_ca (goodIn_r _ [643, 93, 94, 236, 237, 238, 5, 239, 191, 166, 167, 168, 169, 170, 171, 172, 173, 240, 241, 242, 243, 165, 1275, 1276, 1277, 1278, 1279, 1280, 1281, 1282, 1283] (by decide +kernel) (by decide +kernel)) (goodIn_sub (fun _ h => List.mem_append_left _ (List.mem_append_left _ (List.mem_append_left _ (List.mem_append_left _ (List.mem_append_left _ (List.mem_append_left _ (List.mem_append_right _ h))))))) (by decide +kernel))
set_option maxRecDepth 20000 in
theorem gL_law_X6_freeOf : GoodIn wsL_law (wsV RL 189 RX6 yX6_freeOf wsX6_freeOf) := goodIn_app (goodIn_of _ (by decide +kernel)) ggL_law_X6_freeOf
set_option maxRecDepth 20000 in
theorem ggL_law_L_keep : GoodIn wsL_law wsL_keep := goodIn_ca (goodIn_ca (goodIn_r _ [646, 146, 647, 648, 649, 2, 650, 151, 152, 34, 31, 33, 651, 360, 361, 362, 1268, 1269, 1270, 1271, 1272, 1273, 1274] (by decide +kernel) (by decide +kernel)) (goodIn_sub (fun _ h => List.mem_append_left _ (List.mem_append_left _ (List.mem_append_left _ (List.mem_append_left _ (List.mem_append_left _ (List.mem_append_left _ (List.mem_append_right _ h))))))) (by decide +kernel))) (goodIn_sub (fun _ h => List.mem_append_left _ (List.mem_append_left _ (List.mem_append_left _ (List.mem_append_left _ (List.mem_append_left _ (List.mem_append_right _ h)))))) (by decide +kernel))
set_option maxRecDepth 20000 in
theorem gL_law_L_keep : GoodIn wsL_law (va_wsS RL 190 yL_keep wsL_keep) := goodIn_app (goodIn_of _ (by decide +kernel)) ggL_law_L_keep
set_option maxRecDepth 20000 in
theorem ggL_law_X6_keep : GoodIn wsL_law wsX6_keep := goodIn_r _ [655, 100, 94, 656, 657, 352, 353, 658, 659, 660, 661, 662, 99, 663, 664, 169, 170, 171, 5, 172, 173, 665, 666, 667, 668, 669, 670, 109, 671, 672, 673, 674, 675, 676, 677, 678, 679, 680, 681, 682, 108, 683, 340, 341, 342, 684, 685, 336, 337, 338, 339, 343, 344, 345, 346, 686, 687, 86, 688, 689, 690, 691, 692, 693, 694, 695, 696, 697, 356, 357, 358, 359, 360, 361, 362, 1275, 1276, 1277, 1278, 1279, 1280, 1281, 1282, 1283, 1310, 1311, 1312] (by decide +kernel) (by decide +kernel)
set_option maxRecDepth 20000 in
theorem gL_law_X6_keep : GoodIn wsL_law (wsV RL 193 RX6 yX6_keep wsX6_keep) := goodIn_app (goodIn_of _ (by decide +kernel)) ggL_law_X6_keep
