set_option maxRecDepth 20000 in
theorem ggL_law_X7_init : GoodIn wsL_law wsX7_init := goodIn_r _ [11, 12, 13, 14, 15, 16, 17, 18, 19, 20, 21, 22, 23, 24, 25, 26, 27, 28, 29, 30, 31, 32, 33, 34, 35, 36, 37, 38, 39, 40, 41, 42, 43, 44, 45, 46, 47, 48, 49, 50, 51, 52, 53, 54, 55, 56, 57, 58, 59, 60, 61, 1307, 1308, 1309, 1310, 1311, 1312, 1313, 1314, 1315, 1316, 1328, 1329, 1330, 1331, 1332, 1333, 1334, 1335, 1336, 1337, 1338, 1339] (by eq_refl) gw_wsX7_init
set_option maxRecDepth 20000 in
theorem gL_law_X7_init : GoodIn wsL_law (wsX7_init) := ggL_law_X7_init
set_option maxRecDepth 20000 in
theorem ggL_law_X9_init : GoodIn wsL_law wsX9_init := goodIn_r _ [64, 65, 13, 14, 15, 66, 67, 68, 69, 70, 1317, 1318, 1319, 1320, 1321, 1322, 1323, 1324, 1325] (by eq_refl) gw_wsX9_init
set_option maxRecDepth 20000 in
theorem gL_law_X9_init : GoodIn wsL_law (wsX9_init) := ggL_law_X9_init
set_option maxRecDepth 20000 in
theorem ggL_law_X8_init : GoodIn wsL_law wsX8_init := goodIn_r _ [72, 73, 13, 14] (by eq_refl) gw_wsX8_init
set_option maxRecDepth 20000 in
theorem gL_law_X8_init_n159 : GoodIn wsL_law (wsX8_init) := ggL_law_X8_init
set_option maxRecDepth 20000 in
theorem ggL_law_L_set : GoodIn wsL_law wsL_set := goodIn_ca (goodIn_ca (goodIn_r _ [77, 78, 79, 80, 81, 82, 2, 83, 84, 16, 85, 86, 87, 88, 89, 90, 91, 92, 93, 94, 95, 96, 97, 98, 99, 100, 101, 102, 103, 104, 105, 106, 107, 108, 109, 110, 111, 112, 35, 1326, 1327, 1307, 1308, 1309, 1310, 1311, 1312, 1313, 1314, 1315, 1316] (by eq_refl) (by decide +kernel)) (goodIn_sub (fun _ h => List.mem_append_left _ (List.mem_append_right _ h)) (by decide +kernel))) (goodIn_sub (fun _ h => List.mem_append_right _ h) (by decide +kernel))
set_option maxRecDepth 20000 in
theorem gL_law_L_set : GoodIn wsL_law (va_wsS RL 160 yL_set wsL_set) := goodIn_app (goodIn_c chL_law chL_law_in _ [(3, 2), (3, 3), (3, 4)] (by eq_refl) (by decide +kernel)) ggL_law_L_set
set_option maxRecDepth 20000 in
theorem ggL_law_X9_set : GoodIn wsL_law wsX9_set := goodIn_r _ [116, 66, 117, 118, 5, 119, 120, 121, 122, 123, 124, 125, 126, 127, 128, 129, 104, 130, 131, 132, 133, 134, 135, 136, 137, 138, 139, 140, 1317, 1318, 1319, 1320, 1321, 1322, 1323, 1324, 1325] (by eq_refl) gw_wsX9_set
set_option maxRecDepth 20000 in
theorem gL_law_X9_set : GoodIn wsL_law (wsV RL 165 RX9 yX9_set wsX9_set) := goodIn_app (goodIn_c chL_law chL_law_in _ [(4, 17), (4, 18), (4, 19), (0, 5)] (by eq_refl) (by decide +kernel)) ggL_law_X9_set
set_option maxRecDepth 20000 in
theorem ggL_law_X9_thrown : GoodIn wsL_law wsX9_thrown := goodIn_r _ [144, 124, 1317, 1318, 1319, 1320, 1321, 1322, 1323, 1324, 1325] (by eq_refl) gw_wsX9_thrown
set_option maxRecDepth 20000 in
theorem gL_law_X9_thrown : GoodIn wsL_law (wsV RL 166 RX9 yX9_thrown wsX9_thrown) := goodIn_app (goodIn_c chL_law chL_law_in _ [(5, 21), (5, 22), (5, 23), (0, 5)] (by eq_refl) (by decide +kernel)) ggL_law_X9_thrown
set_option maxRecDepth 20000 in
theorem ggL_law_L_digit : GoodIn wsL_law wsL_digit := goodIn_ca (goodIn_ca (goodIn_r _ [147, 78, 79, 148, 149, 150, 2, 151, 16, 85, 86, 87, 88, 89, 90, 91, 92, 152, 153, 154, 93, 94, 95, 96, 97, 155, 156, 100, 157, 109, 110, 111, 112, 35, 1326, 1327, 1307, 1308, 1309, 1310, 1311, 1312, 1313, 1314, 1315, 1316] (by eq_refl) (by decide +kernel)) (goodIn_sub (fun _ h => List.mem_append_left _ (List.mem_append_right _ h)) (by decide +kernel))) (goodIn_sub (fun _ h => List.mem_append_right _ h) (by decide +kernel))
set_option maxRecDepth 20000 in
theorem gL_law_L_digit : GoodIn wsL_law (va_wsS RL 170 yL_digit wsL_digit) := goodIn_app (goodIn_c chL_law chL_law_in _ [(6, 1), (6, 2), (3, 4)] (by eq_refl) (by decide +kernel)) ggL_law_L_digit
set_option maxRecDepth 20000 in
theorem ggL_law_X9_digit : GoodIn wsL_law wsX9_digit := goodIn_r _ [161, 66, 162, 117, 118, 5, 119, 163, 164, 165, 120, 121, 122, 123, 124, 136, 137, 138, 139, 140, 1317, 1318, 1319, 1320, 1321, 1322, 1323, 1324, 1325] (by eq_refl) gw_wsX9_digit
set_option maxRecDepth 20000 in
theorem gL_law_X9_digit : GoodIn wsL_law (wsV RL 173 RX9 yX9_digit wsX9_digit) := goodIn_app (goodIn_c chL_law chL_law_in _ [(6, 14), (6, 15), (6, 16), (0, 5)] (by eq_refl) (by decide +kernel)) ggL_law_X9_digit
set_option maxRecDepth 20000 in
theorem ggL_law_L_run : GoodIn wsL_law wsL_run := goodIn_ca (goodIn_ca (goodIn_r _ [168, 78, 79, 169, 170, 171, 2, 172, 16, 85, 86, 87, 88, 89, 90, 91, 92, 93, 94, 95, 96, 97, 173, 174, 100, 175, 102, 103, 104, 105, 106, 107, 108, 109, 110, 111, 112, 35, 1326, 1327, 1307, 1308, 1309, 1310, 1311, 1312, 1313, 1314, 1315, 1316] (by eq_refl) (by decide +kernel)) (goodIn_sub (fun _ h => List.mem_append_left _ (List.mem_append_right _ h)) (by decide +kernel))) (goodIn_sub (fun _ h => List.mem_append_right _ h) (by decide +kernel))
set_option maxRecDepth 20000 in
theorem gL_law_L_run : GoodIn wsL_law (va_wsS RL 174 yL_run wsL_run) := goodIn_app (goodIn_c chL_law chL_law_in _ [(6, 22), (6, 23), (3, 4)] (by eq_refl) (by decide +kernel)) ggL_law_L_run
set_option maxRecDepth 20000 in
theorem ggL_law_X9_run : GoodIn wsL_law wsX9_run := goodIn_r _ [179, 66, 117, 118, 5, 119, 120, 121, 122, 123, 124, 180, 181, 182, 183, 103, 104, 105, 106, 107, 108, 136, 137, 138, 139, 140, 1317, 1318, 1319, 1320, 1321, 1322, 1323, 1324, 1325] (by eq_refl) gw_wsX9_run
set_option maxRecDepth 20000 in
theorem gL_law_X9_run : GoodIn wsL_law (wsV RL 176 RX9 yX9_run wsX9_run) := goodIn_app (goodIn_c chL_law chL_law_in _ [(7, 8), (7, 9), (7, 10), (0, 5)] (by eq_refl) (by decide +kernel)) ggL_law_X9_run
set_option maxRecDepth 20000 in
theorem ggL_law_L_copy : GoodIn wsL_law wsL_copy := goodIn_ca (goodIn_r _ [186, 78, 187, 188, 189, 2, 190, 16, 85, 86, 87, 88, 89, 90, 91, 92, 191, 192, 193, 194, 98, 99, 100, 101, 102, 103, 104, 105, 106, 107, 108, 109, 110, 111, 112, 35, 1326, 1327, 1307, 1308, 1309, 1310, 1311, 1312, 1313, 1314, 1315, 1316] (by eq_refl) (by decide +kernel)) (goodIn_sub (fun _ h => List.mem_append_left _ (List.mem_append_right _ h)) (by decide +kernel))
set_option maxRecDepth 20000 in
theorem gL_law_L_copy : GoodIn wsL_law (va_wsS RL 177 yL_copy wsL_copy) := goodIn_app (goodIn_c chL_law chL_law_in _ [(7, 16), (7, 17), (3, 4)] (by eq_refl) (by decide +kernel)) ggL_law_L_copy
set_option maxRecDepth 20000 in
theorem ggL_law_X9_copy : GoodIn wsL_law wsX9_copy := goodIn_r _ [198, 66, 117, 118, 5, 119, 199, 200, 201, 202, 120, 121, 122, 123, 124, 203, 204, 205, 206, 125, 126, 127, 128, 129, 104, 130, 131, 132, 133, 134, 135, 136, 137, 138, 139, 140, 1317, 1318, 1319, 1320, 1321, 1322, 1323, 1324, 1325] (by eq_refl) gw_wsX9_copy
set_option maxRecDepth 20000 in
theorem gL_law_X9_copy : GoodIn wsL_law (wsV RL 179 RX9 yX9_copy wsX9_copy) := goodIn_app (goodIn_c chL_law chL_law_in _ [(8, 3), (8, 4), (8, 5), (0, 5)] (by eq_refl) (by decide +kernel)) ggL_law_X9_copy
set_option maxRecDepth 20000 in
theorem ggL_law_L_swap : GoodIn wsL_law wsL_swap := goodIn_ca (goodIn_r _ [209, 78, 210, 211, 212, 2, 213, 16, 85, 86, 87, 88, 89, 90, 91, 92, 109, 110, 111, 112, 35, 1326, 1327, 1307, 1308, 1309, 1310, 1311, 1312, 1313, 1314, 1315, 1316] (by eq_refl) (by decide +kernel)) (goodIn_sub (fun _ h => List.mem_append_left _ (List.mem_append_right _ h)) (by decide +kernel))
set_option maxRecDepth 20000 in
theorem gL_law_L_swap : GoodIn wsL_law (va_wsS RL 180 yL_swap wsL_swap) := goodIn_app (goodIn_c chL_law chL_law_in _ [(8, 15), (8, 16), (3, 4)] (by eq_refl) (by decide +kernel)) ggL_law_L_swap
set_option maxRecDepth 20000 in
theorem ggL_law_X9_swap : GoodIn wsL_law wsX9_swap := goodIn_r _ [217, 66, 117, 118, 5, 119, 199, 200, 201, 202, 120, 121, 122, 123, 124, 136, 137, 138, 139, 140, 1317, 1318, 1319, 1320, 1321, 1322, 1323, 1324, 1325] (by eq_refl) gw_wsX9_swap
set_option maxRecDepth 20000 in
theorem gL_law_X9_swap : GoodIn wsL_law (wsV RL 182 RX9 yX9_swap wsX9_swap) := goodIn_app (goodIn_c chL_law chL_law_in _ [(8, 22), (8, 23), (9, 0), (0, 5)] (by eq_refl) (by decide +kernel)) ggL_law_X9_swap
set_option maxRecDepth 20000 in
theorem ggL_law_L_shift : GoodIn wsL_law wsL_shift := goodIn_ca (goodIn_ca (goodIn_r _ [220, 78, 79, 221, 222, 223, 2, 224, 16, 85, 86, 87, 88, 89, 90, 91, 92, 93, 94, 95, 96, 97, 191, 192, 193, 194, 98, 99, 100, 101, 102, 103, 104, 105, 106, 107, 108, 109, 110, 111, 112, 35, 225, 226, 227, 228, 36, 1326, 1327, 1307, 1308, 1309, 1310, 1311, 1312, 1313, 1314, 1315, 1316] (by eq_refl) (by decide +kernel)) (goodIn_sub (fun _ h => List.mem_append_left _ (List.mem_append_right _ h)) (by decide +kernel))) (goodIn_sub (fun _ h => List.mem_append_right _ h) (by decide +kernel))
set_option maxRecDepth 20000 in
theorem gL_law_L_shift : GoodIn wsL_law (va_wsS RL 183 yL_shift wsL_shift) := goodIn_app (goodIn_c chL_law chL_law_in _ [(9, 2), (9, 3), (3, 4)] (by eq_refl) (by decide +kernel)) ggL_law_L_shift
set_option maxRecDepth 20000 in
theorem ggL_law_X9_shift : GoodIn wsL_law wsX9_shift := goodIn_r _ [232, 66, 117, 118, 5, 119, 120, 121, 122, 123, 124, 125, 126, 127, 128, 129, 104, 130, 131, 132, 133, 134, 135, 233, 234, 235, 236, 237, 203, 204, 205, 206, 136, 137, 138, 139, 140, 1317, 1318, 1319, 1320, 1321, 1322, 1323, 1324, 1325] (by eq_refl) gw_wsX9_shift
set_option maxRecDepth 20000 in
theorem gL_law_X9_shift : GoodIn wsL_law (wsV RL 185 RX9 yX9_shift wsX9_shift) := goodIn_app (goodIn_c chL_law chL_law_in _ [(9, 13), (9, 14), (9, 15), (0, 5)] (by eq_refl) (by decide +kernel)) ggL_law_X9_shift
set_option maxRecDepth 20000 in
theorem ggL_law_L_turn : GoodIn wsL_law wsL_turn := goodIn_ca (goodIn_r _ [240, 78, 241, 242, 243, 2, 244, 16, 85, 86, 87, 88, 89, 90, 91, 92, 245, 246, 100, 247, 248, 99, 101, 102, 103, 104, 105, 106, 107, 108, 191, 192, 193, 194, 98, 109, 110, 111, 112, 35, 1326, 1327, 1307, 1308, 1309, 1310, 1311, 1312, 1313, 1314, 1315, 1316] (by eq_refl) (by decide +kernel)) (goodIn_sub (fun _ h => List.mem_append_left _ (List.mem_append_right _ h)) (by decide +kernel))
set_option maxRecDepth 20000 in
theorem gL_law_L_turn : GoodIn wsL_law (va_wsS RL 186 yL_turn wsL_turn) := goodIn_app (goodIn_c chL_law chL_law_in _ [(9, 22), (9, 23), (3, 4)] (by eq_refl) (by decide +kernel)) ggL_law_L_turn
set_option maxRecDepth 20000 in
theorem ggL_law_X9_turn : GoodIn wsL_law wsX9_turn := goodIn_r _ [252, 66, 117, 118, 5, 119, 199, 200, 201, 202, 120, 121, 122, 123, 124, 253, 254, 255, 125, 126, 127, 128, 129, 104, 130, 131, 132, 133, 134, 135, 203, 204, 205, 206, 136, 137, 138, 139, 140, 1317, 1318, 1319, 1320, 1321, 1322, 1323, 1324, 1325] (by eq_refl) gw_wsX9_turn
set_option maxRecDepth 20000 in
theorem gL_law_X9_turn : GoodIn wsL_law (wsV RL 189 RX9 yX9_turn wsX9_turn) := goodIn_app (goodIn_c chL_law chL_law_in _ [(10, 9), (10, 10), (10, 11), (0, 5)] (by eq_refl) (by decide +kernel)) ggL_law_X9_turn
set_option maxRecDepth 20000 in
theorem ggL_law_L_slope : GoodIn wsL_law wsL_slope := goodIn_ca (goodIn_r _ [258, 78, 259, 260, 261, 2, 262, 16, 263, 85, 86, 87, 88, 89, 90, 91, 92, 191, 192, 193, 194, 98, 99, 100, 101, 102, 103, 104, 105, 106, 107, 108, 109, 110, 111, 112, 35, 1326, 1327, 1307, 1308, 1309, 1310, 1311, 1312, 1313, 1314, 1315, 1316] (by eq_refl) (by decide +kernel)) (goodIn_sub (fun _ h => List.mem_append_left _ (List.mem_append_right _ h)) (by decide +kernel))
set_option maxRecDepth 20000 in
theorem gL_law_L_slope : GoodIn wsL_law (va_wsS RL 190 yL_slope wsL_slope) := goodIn_app (goodIn_c chL_law chL_law_in _ [(10, 16), (10, 17), (3, 4)] (by eq_refl) (by decide +kernel)) ggL_law_L_slope
set_option maxRecDepth 20000 in
theorem ggL_law_X9_slope : GoodIn wsL_law wsX9_slope := goodIn_r _ [267, 66, 117, 118, 5, 119, 199, 200, 201, 202, 120, 121, 122, 123, 124, 203, 204, 205, 206, 125, 126, 127, 128, 129, 104, 130, 131, 132, 133, 134, 135, 136, 137, 138, 139, 140, 1317, 1318, 1319, 1320, 1321, 1322, 1323, 1324, 1325] (by eq_refl) gw_wsX9_slope
set_option maxRecDepth 20000 in
theorem gL_law_X9_slope : GoodIn wsL_law (wsV RL 192 RX9 yX9_slope wsX9_slope) := goodIn_app (goodIn_c chL_law chL_law_in _ [(11, 0), (11, 1), (11, 2), (0, 5)] (by eq_refl) (by decide +kernel)) ggL_law_X9_slope
set_option maxRecDepth 20000 in
theorem ggL_law_L_add : GoodIn wsL_law wsL_add := goodIn_ca (goodIn_r _ [270, 78, 271, 272, 273, 2, 274, 16, 275, 276, 277, 85, 86, 87, 88, 89, 90, 91, 92, 191, 192, 193, 194, 98, 99, 100, 101, 102, 103, 104, 105, 106, 107, 108, 109, 110, 111, 112, 35, 1326, 1327, 1307, 1308, 1309, 1310, 1311, 1312, 1313, 1314, 1315, 1316] (by eq_refl) (by decide +kernel)) (goodIn_sub (fun _ h => List.mem_append_left _ (List.mem_append_right _ h)) (by decide +kernel))
set_option maxRecDepth 20000 in
theorem gL_law_L_add : GoodIn wsL_law (va_wsS RL 193 yL_add wsL_add) := goodIn_app (goodIn_c chL_law chL_law_in _ [(11, 4), (11, 5), (3, 4)] (by eq_refl) (by decide +kernel)) ggL_law_L_add
set_option maxRecDepth 20000 in
theorem ggL_law_X9_add : GoodIn wsL_law wsX9_add := goodIn_r _ [281, 66, 282, 283, 284, 5, 285, 117, 118, 119, 199, 200, 201, 202, 120, 121, 122, 123, 124, 203, 204, 205, 206, 125, 126, 127, 128, 129, 104, 130, 131, 132, 133, 134, 135, 136, 137, 138, 139, 140, 1317, 1318, 1319, 1320, 1321, 1322, 1323, 1324, 1325] (by eq_refl) gw_wsX9_add
set_option maxRecDepth 20000 in
theorem gL_law_X9_add : GoodIn wsL_law (wsV RL 195 RX9 yX9_add wsX9_add) := goodIn_app (goodIn_c chL_law chL_law_in _ [(11, 14), (11, 15), (11, 16), (0, 5)] (by eq_refl) (by decide +kernel)) ggL_law_X9_add
set_option maxRecDepth 20000 in
theorem ggL_law_L_multiply : GoodIn wsL_law wsL_multiply := goodIn_ca (goodIn_r _ [288, 78, 289, 290, 291, 2, 292, 16, 275, 276, 277, 85, 86, 87, 88, 89, 90, 91, 92, 293, 294, 100, 295, 248, 99, 101, 102, 103, 104, 105, 106, 107, 108, 225, 226, 227, 228, 36, 296, 297, 298, 299, 156, 157, 191, 192, 193, 194, 98, 109, 110, 111, 112, 35, 1326, 1327, 1307, 1308, 1309, 1310, 1311, 1312, 1313, 1314, 1315, 1316] (by eq_refl) (by decide +kernel)) (goodIn_sub (fun _ h => List.mem_append_left _ (List.mem_append_right _ h)) (by decide +kernel))
set_option maxRecDepth 20000 in
theorem gL_law_L_multiply : GoodIn wsL_law (va_wsS RL 196 yL_multiply wsL_multiply) := goodIn_app (goodIn_c chL_law chL_law_in _ [(11, 22), (11, 23), (3, 4)] (by eq_refl) (by decide +kernel)) ggL_law_L_multiply
set_option maxRecDepth 20000 in
theorem ggL_law_X9_multiply : GoodIn wsL_law wsX9_multiply := goodIn_r _ [303, 66, 282, 283, 284, 5, 285, 117, 118, 119, 199, 200, 201, 202, 120, 121, 122, 123, 124, 304, 305, 306, 307, 125, 126, 127, 128, 129, 104, 130, 131, 132, 133, 134, 135, 233, 234, 235, 236, 237, 308, 309, 310, 203, 204, 205, 206, 136, 137, 138, 139, 140, 1317, 1318, 1319, 1320, 1321, 1322, 1323, 1324, 1325] (by eq_refl) gw_wsX9_multiply
set_option maxRecDepth 20000 in
theorem gL_law_X9_multiply : GoodIn wsL_law (wsV RL 198 RX9 yX9_multiply wsX9_multiply) := goodIn_app (goodIn_c chL_law chL_law_in _ [(12, 12), (12, 13), (12, 14), (0, 5)] (by eq_refl) (by decide +kernel)) ggL_law_X9_multiply
set_option maxRecDepth 20000 in
theorem ggL_law_L_square : GoodIn wsL_law wsL_square := goodIn_ca (goodIn_r _ [313, 78, 314, 315, 316, 2, 317, 16, 85, 86, 87, 88, 89, 90, 91, 92, 98, 99, 100, 101, 102, 103, 104, 105, 106, 107, 108, 225, 226, 227, 228, 36, 318, 319, 320, 248, 191, 192, 193, 194, 109, 110, 111, 112, 35, 1326, 1327, 1307, 1308, 1309, 1310, 1311, 1312, 1313, 1314, 1315, 1316] (by eq_refl) (by decide +kernel)) (goodIn_sub (fun _ h => List.mem_append_left _ (List.mem_append_right _ h)) (by decide +kernel))
set_option maxRecDepth 20000 in
theorem gL_law_L_square : GoodIn wsL_law (va_wsS RL 199 yL_square wsL_square) := goodIn_app (goodIn_c chL_law chL_law_in _ [(12, 23), (13, 0), (3, 4)] (by eq_refl) (by decide +kernel)) ggL_law_L_square
set_option maxRecDepth 20000 in
theorem ggL_law_X9_square : GoodIn wsL_law wsX9_square := goodIn_r _ [324, 66, 117, 118, 5, 119, 199, 200, 201, 202, 120, 121, 122, 123, 124, 304, 305, 306, 307, 125, 126, 127, 128, 129, 104, 130, 131, 132, 133, 134, 135, 233, 234, 235, 236, 237, 308, 309, 310, 203, 204, 205, 206, 136, 137, 138, 139, 140, 1317, 1318, 1319, 1320, 1321, 1322, 1323, 1324, 1325] (by eq_refl) gw_wsX9_square
set_option maxRecDepth 20000 in
theorem gL_law_X9_square : GoodIn wsL_law (wsV RL 201 RX9 yX9_square wsX9_square) := goodIn_app (goodIn_c chL_law chL_law_in _ [(13, 9), (13, 10), (13, 11), (0, 5)] (by eq_refl) (by decide +kernel)) ggL_law_X9_square
set_option maxRecDepth 20000 in
theorem ggL_law_L_divide : GoodIn wsL_law wsL_divide := goodIn_ca (goodIn_r _ [327, 78, 328, 329, 330, 2, 331, 16, 275, 276, 277, 85, 86, 87, 88, 89, 90, 91, 92, 225, 226, 227, 228, 36, 332, 333, 100, 334, 248, 99, 101, 102, 103, 104, 105, 106, 107, 108, 299, 156, 157, 191, 192, 193, 194, 98, 109, 110, 111, 112, 35, 1326, 1327, 1307, 1308, 1309, 1310, 1311, 1312, 1313, 1314, 1315, 1316] (by eq_refl) (by decide +kernel)) (goodIn_sub (fun _ h => List.mem_append_left _ (List.mem_append_right _ h)) (by decide +kernel))
set_option maxRecDepth 20000 in
theorem gL_law_L_divide : GoodIn wsL_law (va_wsS RL 202 yL_divide wsL_divide) := goodIn_app (goodIn_c chL_law chL_law_in _ [(13, 13), (13, 14), (3, 4)] (by eq_refl) (by decide +kernel)) ggL_law_L_divide
set_option maxRecDepth 20000 in
theorem ggL_law_X9_divide : GoodIn wsL_law wsX9_divide := goodIn_r _ [338, 66, 282, 283, 284, 5, 285, 117, 118, 119, 199, 200, 201, 202, 120, 121, 122, 123, 124, 233, 234, 235, 236, 237, 339, 340, 341, 125, 126, 127, 128, 129, 104, 130, 131, 132, 133, 134, 135, 203, 204, 205, 206, 136, 137, 138, 139, 140, 1317, 1318, 1319, 1320, 1321, 1322, 1323, 1324, 1325] (by eq_refl) gw_wsX9_divide
set_option maxRecDepth 20000 in
theorem gL_law_X9_divide : GoodIn wsL_law (wsV RL 204 RX9 yX9_divide wsX9_divide) := goodIn_app (goodIn_c chL_law chL_law_in _ [(13, 23), (14, 0), (14, 1), (0, 5)] (by eq_refl) (by decide +kernel)) ggL_law_X9_divide
set_option maxRecDepth 20000 in
theorem ggL_law_L_remain : GoodIn wsL_law wsL_remain := goodIn_ca (goodIn_r _ [344, 78, 345, 346, 347, 2, 348, 16, 275, 276, 277, 85, 86, 87, 88, 89, 90, 91, 92, 225, 226, 227, 228, 36, 349, 350, 100, 351, 248, 99, 101, 102, 103, 104, 105, 106, 107, 108, 299, 156, 157, 191, 192, 193, 194, 98, 109, 110, 111, 112, 35, 1326, 1327, 1307, 1308, 1309, 1310, 1311, 1312, 1313, 1314, 1315, 1316] (by eq_refl) (by decide +kernel)) (goodIn_sub (fun _ h => List.mem_append_left _ (List.mem_append_right _ h)) (by decide +kernel))
set_option maxRecDepth 20000 in
theorem gL_law_L_remain : GoodIn wsL_law (va_wsS RL 205 yL_remain wsL_remain) := goodIn_app (goodIn_c chL_law chL_law_in _ [(14, 6), (14, 7), (3, 4)] (by eq_refl) (by decide +kernel)) ggL_law_L_remain
set_option maxRecDepth 20000 in
theorem ggL_law_X9_remain : GoodIn wsL_law wsX9_remain := goodIn_r _ [355, 66, 282, 283, 284, 5, 285, 117, 118, 119, 199, 200, 201, 202, 120, 121, 122, 123, 124, 233, 234, 235, 236, 237, 356, 357, 358, 339, 340, 341, 125, 126, 127, 128, 129, 104, 130, 131, 132, 133, 134, 135, 308, 309, 310, 203, 204, 205, 206, 136, 137, 138, 139, 140, 1317, 1318, 1319, 1320, 1321, 1322, 1323, 1324, 1325] (by eq_refl) gw_wsX9_remain
set_option maxRecDepth 20000 in
theorem gL_law_X9_remain : GoodIn wsL_law (wsV RL 207 RX9 yX9_remain wsX9_remain) := goodIn_app (goodIn_c chL_law chL_law_in _ [(14, 16), (14, 17), (14, 18), (0, 5)] (by eq_refl) (by decide +kernel)) ggL_law_X9_remain
