set_option maxRecDepth 20000 in
theorem ggL_law_X5_countEnvy : GoodIn wsL_law wsX5_countEnvy := goodIn_ca (goodIn_r _ [1180, 17, 153, 1165, 1166, 1167, 2, 1168, 31, 1149, 261, 262, 16, 263, 39, 43, 1268, 1269, 1270, 1271, 1272, 1273, 1274, 1284, 1285, 1286, 1287, 1288, 1289, 1290] (by decide +kernel) (by decide +kernel)) (goodIn_sub (fun _ h => List.mem_append_left _ (List.mem_append_left _ (List.mem_append_left _ (List.mem_append_left _ (List.mem_append_left _ (List.mem_append_left _ (List.mem_append_right _ h))))))) (by decide +kernel))
set_option maxRecDepth 20000 in
theorem gL_law_X5_countEnvy : GoodIn wsL_law (wsV RL 254 RX5 yX5_countEnvy wsX5_countEnvy) := goodIn_app (goodIn_of _ (by decide +kernel)) ggL_law_X5_countEnvy
set_option maxRecDepth 20000 in
theorem ggL_law_X6_countEnvy : GoodIn wsL_law wsX6_countEnvy := goodIn_ca (goodIn_r _ [1184, 165, 1173, 1174, 1175, 5, 1176, 94, 790, 791, 792, 793, 96, 1275, 1276, 1277, 1278, 1279, 1280, 1281, 1282, 1283] (by decide +kernel) (by decide +kernel)) (goodIn_sub (fun _ h => List.mem_append_left _ (List.mem_append_left _ (List.mem_append_left _ (List.mem_append_left _ (List.mem_append_left _ (List.mem_append_left _ (List.mem_append_right _ h))))))) (by decide +kernel))
set_option maxRecDepth 20000 in
theorem gL_law_X6_countEnvy : GoodIn wsL_law (wsV RL 257 RX6 yX6_countEnvy wsX6_countEnvy) := goodIn_app (goodIn_of _ (by decide +kernel)) ggL_law_X6_countEnvy
set_option maxRecDepth 20000 in
theorem ggL_law_L_matchedShare : GoodIn wsL_law wsL_matchedShare := goodIn_ca (goodIn_ca (goodIn_r _ [1187, 1188, 1189, 1190, 1191, 2, 1192, 1193, 1194, 17, 153, 715, 716, 717, 718, 31, 1268, 1269, 1270, 1271, 1272, 1273, 1274, 1284, 1285, 1286, 1287, 1288, 1289, 1290] (by decide +kernel) (by decide +kernel)) (goodIn_sub (fun _ h => List.mem_append_left _ (List.mem_append_left _ (List.mem_append_left _ (List.mem_append_left _ (List.mem_append_left _ (List.mem_append_left _ (List.mem_append_right _ h))))))) (by decide +kernel))) (goodIn_sub (fun _ h => List.mem_append_right _ h) (by decide +kernel))
set_option maxRecDepth 20000 in
theorem gL_law_L_matchedShare : GoodIn wsL_law (va_wsS RL 258 yL_matchedShare wsL_matchedShare) := goodIn_app (goodIn_of _ (by decide +kernel)) ggL_law_L_matchedShare
set_option maxRecDepth 20000 in
theorem ggL_law_X6_matchedShare : GoodIn wsL_law wsX6_matchedShare := goodIn_ca (goodIn_r _ [1198, 165, 94, 169, 170, 171, 5, 172, 173, 240, 241, 242, 243, 1275, 1276, 1277, 1278, 1279, 1280, 1281, 1282, 1283] (by decide +kernel) (by decide +kernel)) (goodIn_sub (fun _ h => List.mem_append_left _ (List.mem_append_left _ (List.mem_append_left _ (List.mem_append_left _ (List.mem_append_left _ (List.mem_append_left _ (List.mem_append_right _ h))))))) (by decide +kernel))
set_option maxRecDepth 20000 in
theorem gL_law_X6_matchedShare : GoodIn wsL_law (wsV RL 261 RX6 yX6_matchedShare wsX6_matchedShare) := goodIn_app (goodIn_of _ (by decide +kernel)) ggL_law_X6_matchedShare
