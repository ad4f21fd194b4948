set_option maxRecDepth 20000 in
theorem gL_law_X6_envies : GoodIn wsL_law (wsV RL 253 RX6 yX6_envies wsX6_envies) := goodIn_app (goodIn_of _ (by decide +kernel)) ggL_law_X6_envies
set_option maxRecDepth 20000 in
theorem ggL_law_X5_countEnvy : GoodIn wsL_law wsX5_countEnvy := goodIn_ca (goodIn_r _ [1180, 17, 153, 1165, 1166, 1167, 2, 1168, 31, 1149, 261, 262, 16, 263, 39, 43, 1268, 1269, 1270, 1271, 1272, 1273, 1274, 1284, 1285, 1286, 1287, 1288, 1289, 1290] (by decide +kernel) (by decide +kernel)) (goodIn_sub (fun _ h => List.mem_append_left _ (List.mem_append_left _ (List.mem_append_left _ (List.mem_append_left _ (List.mem_append_left _ (List.mem_append_left _ (List.mem_append_right _ h))))))) (by decide +kernel))
set_option maxRecDepth 20000 in
theorem gL_law_X5_countEnvy : GoodIn wsL_law (wsV RL 254 RX5 yX5_countEnvy wsX5_countEnvy) := goodIn_app (goodIn_of _ (by decide +kernel)) ggL_law_X5_countEnvy
set_option maxRecDepth 20000 in
theorem ggL_law_X6_countEnvy : GoodIn wsL_law wsX6_countEnvy := goodIn_ca (goodIn_r _ [1184, 165, 1173, 1174, 1175, 5, 1176, 94, 790, 791, 792, 793, 96, 1275, 1276, 1277, 1278, 1279, 1280, 1281, 1282, 1283] (by decide +kernel) (by decide +kernel)) (goodIn_sub (fun _ h => List.mem_append_left _ (List.mem_append_left _ (List.mem_append_left _ (List.mem_append_left _ (List.mem_append_left _ (List.mem_append_left _ (List.mem_append_right _ h))))))) (by decide +kernel))
set_option maxRecDepth 20000 in
theorem gL_law_X6_countEnvy : GoodIn wsL_law (wsV RL 257 RX6 yX6_countEnvy wsX6_countEnvy) := goodIn_app (goodIn_of _ (by decide +kernel)) ggL_law_X6_countEnvy
set_option maxRecDepth 20000 in
theorem ggL_law_L_matchedShare : GoodIn wsL_law wsL_matchedShare := goodIn_ca (goodIn_ca (goodIn_r _ [1187, 1188, 1189, 1190, 1191, 2, 1192, 1193, 1194, 17, 153, 715, 716, 717, 718, 31, 1268, 1269, 1270, 1271, 1272, 1273, 1274, 1284, 1285, 1286, 1287, 1288, 1289, 1290] (by decide +kernel) (by decide +kernel)) (goodIn_sub (fun _ h => List.mem_append_left _ (List.mem_append_left _ (List.mem_append_left _ (List.mem_append_left _ (List.mem_append_left _ (List.mem_append_left _ (List.mem_append_right _ h))))))) (by decide +kernel))) (goodIn_sub (fun _ h => List.mem_append_right _ h) (by decide +kernel))
set_option maxRecDepth 20000 in
theorem gL_law_L_matchedShare : GoodIn wsL_law (va_wsS RL 258 yL_matchedShare wsL_matchedShare) := goodIn_app (goodIn_of _ (by decide +kernel)) ggL_law_L_matchedShare
set_option maxRecDepth 20000 in
theorem ggL_law_X6_matchedShare : GoodIn wsL_law wsX6_matchedShare := goodIn_ca (goodIn_r _ [1198, 165, 94, 169, 170, 171, 5, 172, 173, 240, 241, 242, 243, 1275, 1276, 1277, 1278, 1279, 1280, 1281, 1282, 1283] (by decide +kernel) (by decide +kernel)) (goodIn_sub (fun _ h => List.mem_append_left _ (List.mem_append_left _ (List.mem_append_left _ (List.mem_append_left _ (List.mem_append_left _ (List.mem_append_left _ (List.mem_append_right _ h))))))) (by decide +kernel))
set_option maxRecDepth 20000 in
theorem gL_law_X6_matchedShare : GoodIn wsL_law (wsV RL 261 RX6 yX6_matchedShare wsX6_matchedShare) := goodIn_app (goodIn_of _ (by decide +kernel)) ggL_law_X6_matchedShare
set_option maxRecDepth 20000 in
theorem ggL_law_L_meanRank : GoodIn wsL_law wsL_meanRank := goodIn_ca (goodIn_ca (goodIn_r _ [1201, 1188, 1202, 1203, 1204, 2, 1205, 1193, 1194, 17, 153, 31, 715, 716, 717, 718, 1149, 261, 262, 16, 263, 39, 43, 1268, 1269, 1270, 1271, 1272, 1273, 1274, 1284, 1285, 1286, 1287, 1288, 1289, 1290] (by decide +kernel) (by decide +kernel)) (goodIn_sub (fun _ h => List.mem_append_left _ (List.mem_append_left _ (List.mem_append_left _ (List.mem_append_left _ (List.mem_append_left _ (List.mem_append_left _ (List.mem_append_right _ h))))))) (by decide +kernel))) (goodIn_sub (fun _ h => List.mem_append_right _ h) (by decide +kernel))
set_option maxRecDepth 20000 in
theorem gL_law_L_meanRank : GoodIn wsL_law (va_wsS RL 262 yL_meanRank wsL_meanRank) := goodIn_app (goodIn_of _ (by decide +kernel)) ggL_law_L_meanRank
set_option maxRecDepth 20000 in
theorem ggL_law_X6_meanRank : GoodIn wsL_law wsX6_meanRank := goodIn_ca (goodIn_r _ [1209, 165, 94, 96, 240, 241, 242, 5, 243, 169, 170, 171, 172, 173, 1275, 1276, 1277, 1278, 1279, 1280, 1281, 1282, 1283] (by decide +kernel) (by decide +kernel)) (goodIn_sub (fun _ h => List.mem_append_left _ (List.mem_append_left _ (List.mem_append_left _ (List.mem_append_left _ (List.mem_append_left _ (List.mem_append_left _ (List.mem_append_right _ h))))))) (by decide +kernel))
set_option maxRecDepth 20000 in
theorem gL_law_X6_meanRank : GoodIn wsL_law (wsV RL 264 RX6 yX6_meanRank wsX6_meanRank) := goodIn_app (goodIn_of _ (by decide +kernel)) ggL_law_X6_meanRank
set_option maxRecDepth 20000 in
theorem ggL_law_X5_checksum : GoodIn wsL_law wsX5_checksum := goodIn_ca (goodIn_r _ [1213, 1214, 17, 153, 1215, 154, 185, 251, 31, 186, 34, 33, 1268, 1269, 1270, 1271, 1272, 1273, 1274, 1284, 1285, 1286, 1287, 1288, 1289, 1290] (by decide +kernel) (by decide +kernel)) (goodIn_sub (fun _ h => List.mem_append_left _ (List.mem_append_left _ (List.mem_append_left _ (List.mem_append_left _ (List.mem_append_left _ (List.mem_append_left _ (List.mem_append_right _ h))))))) (by decide +kernel))
set_option maxRecDepth 20000 in
theorem gL_law_X5_checksum : GoodIn wsL_law (wsV RL 265 RX5 yX5_checksum wsX5_checksum) := goodIn_app (goodIn_of _ (by decide +kernel)) ggL_law_X5_checksum
set_option maxRecDepth 20000 in
theorem ggL_law_X6_checksum : GoodIn wsL_law wsX6_checksum := goodIn_ca (goodIn_r _ [1219, 1220, 165, 1221, 92, 191, 96, 94, 93, 100, 659, 1222, 1223, 1224, 99, 1225, 1226, 1227, 1228, 1229, 1230, 1231, 1232, 1233, 12, 13, 1234, 1235, 670, 1236, 1237, 1238, 1239, 1240, 1241, 1242, 1243, 1244, 1245, 1246, 1247, 1248, 1249, 1250, 1275, 1276, 1277, 1278, 1279, 1280, 1281, 1282, 1283, 1333, 1334, 1335, 1336, 1310, 1311, 1312] (by decide +kernel) (by decide +kernel)) (goodIn_sub (fun _ h => List.mem_append_left _ (List.mem_append_left _ (List.mem_append_left _ (List.mem_append_left _ (List.mem_append_left _ (List.mem_append_left _ (List.mem_append_right _ h))))))) (by decide +kernel))
set_option maxRecDepth 20000 in
theorem gL_law_X6_checksum : GoodIn wsL_law (wsV RL 269 RX6 yX6_checksum wsX6_checksum) := goodIn_app (goodIn_of _ (by decide +kernel)) ggL_law_X6_checksum
set_option maxRecDepth 20000 in
theorem ggL_law_X5_isTrue : GoodIn wsL_law wsX5_isTrue := goodIn_ca (goodIn_r _ [1254, 25, 17, 31, 1094, 962, 889, 890, 891, 24, 892, 893, 894, 895, 62, 896, 897, 56, 898, 261, 262, 16, 263, 39, 43, 899, 257, 258, 259, 260, 900, 901, 902, 903, 904, 905, 906, 61, 907, 908, 73, 72, 71, 909, 70, 910, 85, 86, 87, 911, 912, 913, 914, 76, 74, 75, 915, 916, 917, 918, 919, 920, 921, 922, 923, 924, 925, 926, 927, 928, 929, 930, 931, 932, 933, 934, 935, 936, 937, 938, 939, 940, 1095, 1096, 1097, 1098, 57, 1099, 1100, 1101, 1102, 1014, 709, 710, 711, 712, 46, 38, 41, 713, 714, 801, 802, 803, 804, 805, 771, 772, 773, 40, 1255, 1256, 1257, 2, 1258, 34, 33, 1259, 340, 341, 342, 1260, 1261, 1262, 1263, 1063, 997, 998, 999, 1000, 1001, 1002, 1003, 1004, 58, 1005, 1006, 1007, 1008, 1009, 357, 358, 63, 1010, 1011, 1012, 1013, 1015, 1016, 1017, 1018, 65, 1019, 1020, 1021, 1022, 1023, 1024, 1025, 1026, 1027, 1028, 1029, 1030, 1268, 1269, 1270, 1271, 1272, 1273, 1274, 1294, 1295, 1296, 1297, 1298, 1299, 1284, 1285, 1286, 1287, 1288, 1289, 1290, 1303, 1304, 1305, 1306, 1307, 1308, 1309] (by decide +kernel) (by decide +kernel)) (goodIn_sub (fun _ h => List.mem_append_left _ (List.mem_append_left _ (List.mem_append_left _ (List.mem_append_left _ (List.mem_append_left _ (List.mem_append_left _ (List.mem_append_right _ h))))))) (by decide +kernel))
set_option maxRecDepth 20000 in
theorem gL_law_X5_isTrue : GoodIn wsL_law (wsV RL 270 RX5 yX5_isTrue wsX5_isTrue) := goodIn_app (goodIn_of _ (by decide +kernel)) ggL_law_X5_isTrue
set_option maxRecDepth 20000 in
theorem ggL_law_X6_isTrue : GoodIn wsL_law wsX6_isTrue := goodIn_r _ [1267] (by decide +kernel) (by decide +kernel)
set_option maxRecDepth 20000 in
theorem gL_law_X6_isTrue : GoodIn wsL_law (wsV RL 273 RX6 yX6_isTrue wsX6_isTrue) := goodIn_app (goodIn_of _ (by decide +kernel)) ggL_law_X6_isTrue

