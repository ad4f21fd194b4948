set_option maxRecDepth 20000 in
theorem ggL_law_L_meanRank : GoodIn wsL_law wsL_meanRank := goodIn_ca (goodIn_ca (goodIn_r _ [1201, 1188, 1202, 1203, 1204, 2, 1205, 1193, 1194, 17, 153, 31, 715, 716, 717, 718, 1149, 261, 262, 16, 263, 39, 43, 1268, 1269, 1270, 1271, 1272, 1273, 1274, 1284, 1285, 1286, 1287, 1288, 1289, 1290] (by decide +kernel) (by decide +kernel)) (goodIn_sub (fun _ h => List.mem_append_left _ (List.mem_append_left _ (List.mem_append_left _ (List.mem_append_left _ (List.mem_append_left _ (List.mem_append_left _ (List.mem_append_right _ h))))))) (by decide +kernel))) (goodIn_sub (fun _ h => List.mem_append_right _ h) (by decide +kernel))
set_option maxRecDepth 20000 in
theorem gL_law_L_meanRank : GoodIn wsL_law (va_wsS RL 262 yL_meanRank wsL_meanRank) := goodIn_app (goodIn_of _ (by decide +kernel)) ggL_law_L_meanRank
set_option maxRecDepth 20000 in
theorem ggL_law_X6_meanRank : GoodIn wsL_law wsX6_meanRank := goodIn_ca (goodIn_r _ [1209, 165, 94, 96, 240, 241, 242, 5, 243, 169, 170, 171, 172, 173, 1275, 1276, 1277, 1278, 1279, 1280, 1281, 1282, 1283] (by decide +kernel) (by decide +kernel)) (goodIn_sub (fun _ h => List.mem_append_left _ (List.mem_append_left _ (List.mem_append_left _ (List.mem_append_left _ (List.mem_append_left _ (List.mem_append_left _ (List.mem_append_right _ h))))))) (by decide +kernel))
set_option maxRecDepth 20000 in
theorem gL_law_X6_meanRank : GoodIn wsL_law (wsV RL 264 RX6 yX6_meanRank wsX6_meanRank) := goodIn_app (goodIn_of _ (by decide +kernel)) ggL_law_X6_meanRank
set_option maxRecDepth 20000 in
theorem ggL_law_X5_checksum : GoodIn wsL_law wsX5_checksum := goodIn_ca (goodIn_r _ [1213, 1214, 17, 153, 1215, 154, 185, 251, 31, 186, 34, 33, 1268, 1269, 1270, 1271, 1272, 1273, 1274, 1284, 1285, 1286, 1287, 1288, 1289, 1290] (by decide +kernel) (by decide +kernel)) (goodIn_sub (fun _ h => List.mem_append_left _ (List.mem_append_left _ (List.mem_append_left _ (List.mem_append_left _ (List.mem_append_left _ (List.mem_append_left _ (List.mem_append_right _ h))))))) (by decide +kernel))
set_option maxRecDepth 20000 in
theorem gL_law_X5_checksum : GoodIn wsL_law (wsV RL 265 RX5 yX5_checksum wsX5_checksum) := goodIn_app (goodIn_of _ (by decide +kernel)) ggL_law_X5_checksum
