set_option maxRecDepth 20000 in
theorem ggL_law_L_common : GoodIn wsL_law wsL_common := goodIn_ca (goodIn_r _ [361, 78, 362, 363, 364, 2, 365, 16, 275, 276, 277, 85, 86, 87, 88, 89, 90, 91, 92, 366, 367, 100, 368, 369, 350, 351, 248, 99, 101, 102, 103, 104, 105, 106, 107, 108, 299, 156, 157, 191, 192, 193, 194, 98, 109, 110, 111, 112, 35, 1326, 1327, 1307, 1308, 1309, 1310, 1311, 1312, 1313, 1314, 1315, 1316] (by eq_refl) (by decide +kernel)) (goodIn_sub (fun _ h => List.mem_append_left _ (List.mem_append_right _ h)) (by decide +kernel))
set_option maxRecDepth 20000 in
theorem gL_law_L_common : GoodIn wsL_law (va_wsS RL 208 yL_common wsL_common) := goodIn_app (goodIn_c chL_law chL_law_in _ [(14, 23), (15, 0), (3, 4)] (by eq_refl) (by decide +kernel)) ggL_law_L_common
set_option maxRecDepth 20000 in
theorem ggL_law_X9_common : GoodIn wsL_law wsX9_common := goodIn_r _ [373, 66, 282, 283, 284, 5, 285, 117, 118, 119, 199, 200, 201, 202, 120, 121, 122, 123, 124, 374, 375, 376, 356, 357, 358, 339, 340, 341, 125, 126, 127, 128, 129, 104, 130, 131, 132, 133, 134, 135, 308, 309, 310, 203, 204, 205, 206, 136, 137, 138, 139, 140, 1317, 1318, 1319, 1320, 1321, 1322, 1323, 1324, 1325] (by eq_refl) gw_wsX9_common
set_option maxRecDepth 20000 in
theorem gL_law_X9_common : GoodIn wsL_law (wsV RL 210 RX9 yX9_common wsX9_common) := goodIn_app (goodIn_c chL_law chL_law_in _ [(15, 10), (15, 11), (15, 12), (0, 5)] (by eq_refl) (by decide +kernel)) ggL_law_X9_common
set_option maxRecDepth 20000 in
theorem ggL_law_L_multipliers : GoodIn wsL_law wsL_multipliers := goodIn_ca (goodIn_ca (goodIn_r _ [379, 78, 79, 380, 381, 382, 2, 383, 96, 97, 28, 16, 275, 276, 277, 85, 86, 87, 88, 89, 90, 91, 92, 384, 385, 386, 27, 387, 388, 389, 390, 391, 392, 393, 394, 333, 100, 334, 248, 99, 101, 102, 103, 104, 105, 106, 107, 108, 299, 156, 157, 395, 396, 397, 398, 399, 297, 298, 98, 109, 110, 111, 112, 35, 1326, 1327, 1307, 1308, 1309, 1310, 1311, 1312, 1313, 1314, 1315, 1316, 1333, 1334, 1335, 1336, 1337, 1338] (by eq_refl) (by decide +kernel)) (goodIn_sub (fun _ h => List.mem_append_right _ h) (by decide +kernel))) (goodIn_sub (fun _ h => List.mem_append_left _ (List.mem_append_right _ h)) (by decide +kernel))
set_option maxRecDepth 20000 in
theorem gL_law_L_multipliers : GoodIn wsL_law (va_wsS RL 211 yL_multipliers wsL_multipliers) := goodIn_app (goodIn_c chL_law chL_law_in _ [(15, 17), (15, 18), (3, 4)] (by eq_refl) (by decide +kernel)) ggL_law_L_multipliers
set_option maxRecDepth 20000 in
theorem ggL_law_X9_multipliers : GoodIn wsL_law wsX9_multipliers := goodIn_r _ [403, 15, 66, 117, 118, 5, 119, 120, 121, 122, 123, 124, 339, 340, 341, 125, 126, 127, 128, 129, 104, 130, 131, 132, 133, 134, 135, 308, 309, 310, 136, 137, 138, 139, 140, 1317, 1318, 1319, 1320, 1321, 1322, 1323, 1324, 1325] (by eq_refl) gw_wsX9_multipliers
set_option maxRecDepth 20000 in
theorem gL_law_X9_multipliers : GoodIn wsL_law (wsV RL 214 RX9 yX9_multipliers wsX9_multipliers) := goodIn_app (goodIn_c chL_law chL_law_in _ [(16, 16), (16, 17), (16, 18), (0, 5)] (by eq_refl) (by decide +kernel)) ggL_law_X9_multipliers
set_option maxRecDepth 20000 in
theorem ggL_law_L_power : GoodIn wsL_law wsL_power := goodIn_ca (goodIn_ca (goodIn_r _ [406, 78, 79, 407, 408, 409, 2, 410, 16, 275, 276, 277, 85, 86, 87, 88, 89, 90, 91, 92, 93, 94, 95, 96, 97, 98, 99, 100, 101, 102, 103, 104, 105, 106, 107, 108, 225, 226, 227, 228, 36, 411, 412, 413, 369, 350, 351, 248, 299, 156, 157, 414, 319, 320, 415, 297, 298, 191, 192, 193, 194, 109, 110, 111, 112, 35, 1326, 1327, 1307, 1308, 1309, 1310, 1311, 1312, 1313, 1314, 1315, 1316] (by eq_refl) (by decide +kernel)) (goodIn_sub (fun _ h => List.mem_append_left _ (List.mem_append_right _ h)) (by decide +kernel))) (goodIn_sub (fun _ h => List.mem_append_right _ h) (by decide +kernel))
set_option maxRecDepth 20000 in
theorem gL_law_L_power : GoodIn wsL_law (va_wsS RL 215 yL_power wsL_power) := goodIn_app (goodIn_c chL_law chL_law_in _ [(16, 20), (16, 21), (3, 4)] (by eq_refl) (by decide +kernel)) ggL_law_L_power
set_option maxRecDepth 20000 in
theorem ggL_law_X9_power : GoodIn wsL_law wsX9_power := goodIn_r _ [419, 66, 117, 118, 5, 119, 120, 121, 122, 123, 124, 125, 126, 127, 128, 129, 104, 130, 131, 132, 133, 134, 135, 233, 234, 235, 236, 237, 420, 421, 422, 356, 357, 358, 339, 340, 341, 308, 309, 310, 203, 204, 205, 206, 136, 137, 138, 139, 140, 1317, 1318, 1319, 1320, 1321, 1322, 1323, 1324, 1325] (by eq_refl) gw_wsX9_power
set_option maxRecDepth 20000 in
theorem gL_law_X9_power : GoodIn wsL_law (wsV RL 217 RX9 yX9_power wsX9_power) := goodIn_app (goodIn_c chL_law chL_law_in _ [(17, 8), (17, 9), (17, 10), (0, 5)] (by eq_refl) (by decide +kernel)) ggL_law_X9_power
set_option maxRecDepth 20000 in
theorem ggL_law_L_allPrimes : GoodIn wsL_law wsL_allPrimes := goodIn_ca (goodIn_ca (goodIn_r _ [425, 78, 79, 426, 427, 428, 2, 429, 85, 86, 87, 88, 89, 90, 91, 92, 93, 94, 95, 96, 97, 430, 431, 432, 433, 434, 435, 436, 437, 438, 439, 440, 441, 99, 100, 101, 102, 103, 104, 105, 106, 107, 108, 442, 443, 444, 369, 350, 351, 248, 299, 156, 157, 445, 297, 298, 191, 192, 193, 194, 16, 98, 109, 110, 111, 112, 35, 1326, 1327, 1307, 1308, 1309, 1310, 1311, 1312, 1313, 1314, 1315, 1316] (by eq_refl) (by decide +kernel)) (goodIn_sub (fun _ h => List.mem_append_left _ (List.mem_append_right _ h)) (by decide +kernel))) (goodIn_sub (fun _ h => List.mem_append_right _ h) (by decide +kernel))
set_option maxRecDepth 20000 in
theorem gL_law_L_allPrimes : GoodIn wsL_law (va_wsS RL 218 yL_allPrimes wsL_allPrimes) := goodIn_app (goodIn_c chL_law chL_law_in _ [(17, 15), (17, 16), (3, 4)] (by eq_refl) (by decide +kernel)) ggL_law_L_allPrimes
set_option maxRecDepth 20000 in
theorem ggL_law_X9_allPrimes : GoodIn wsL_law wsX9_allPrimes := goodIn_r _ [449, 450, 117, 118, 5, 119, 120, 121, 122, 123, 124, 451, 452, 453, 125, 126, 127, 128, 129, 104, 130, 131, 132, 133, 134, 135, 356, 357, 358, 339, 340, 341, 308, 309, 310, 203, 204, 205, 206, 66, 136, 137, 138, 139, 140, 1317, 1318, 1319, 1320, 1321, 1322, 1323, 1324, 1325] (by eq_refl) gw_wsX9_allPrimes
set_option maxRecDepth 20000 in
theorem gL_law_X9_allPrimes : GoodIn wsL_law (wsV RL 220 RX9 yX9_allPrimes wsX9_allPrimes) := goodIn_app (goodIn_c chL_law chL_law_in _ [(18, 14), (18, 15), (18, 16), (0, 5)] (by eq_refl) (by decide +kernel)) ggL_law_X9_allPrimes
set_option maxRecDepth 20000 in
theorem ggL_law_L_seal : GoodIn wsL_law wsL_seal := goodIn_ca (goodIn_r _ [456, 78, 457, 458, 459, 2, 460, 16, 275, 276, 277, 85, 86, 87, 88, 89, 90, 91, 92, 98, 99, 100, 101, 102, 103, 104, 105, 106, 107, 108, 461, 462, 463, 464, 225, 226, 227, 228, 36, 465, 466, 467, 248, 369, 350, 351, 299, 156, 157, 173, 174, 175, 109, 110, 111, 112, 35, 1326, 1327, 1307, 1308, 1309, 1310, 1311, 1312, 1313, 1314, 1315, 1316] (by eq_refl) (by decide +kernel)) (goodIn_sub (fun _ h => List.mem_append_left _ (List.mem_append_right _ h)) (by decide +kernel))
set_option maxRecDepth 20000 in
theorem gL_law_L_seal : GoodIn wsL_law (va_wsS RL 221 yL_seal wsL_seal) := goodIn_app (goodIn_c chL_law chL_law_in _ [(18, 22), (18, 23), (3, 4)] (by eq_refl) (by decide +kernel)) ggL_law_L_seal
set_option maxRecDepth 20000 in
theorem ggL_law_X9_seal : GoodIn wsL_law wsX9_seal := goodIn_r _ [471, 66, 282, 283, 284, 5, 285, 117, 118, 119, 199, 200, 201, 202, 120, 121, 122, 123, 124, 472, 473, 474, 125, 126, 127, 128, 129, 104, 130, 131, 132, 133, 134, 135, 233, 234, 235, 236, 237, 475, 476, 477, 356, 357, 358, 339, 340, 341, 308, 309, 310, 180, 181, 182, 183, 103, 105, 106, 107, 108, 136, 137, 138, 139, 140, 1317, 1318, 1319, 1320, 1321, 1322, 1323, 1324, 1325] (by eq_refl) gw_wsX9_seal
set_option maxRecDepth 20000 in
theorem gL_law_X9_seal : GoodIn wsL_law (wsV RL 223 RX9 yX9_seal wsX9_seal) := goodIn_app (goodIn_c chL_law chL_law_in _ [(19, 12), (19, 13), (19, 14), (0, 5)] (by eq_refl) (by decide +kernel)) ggL_law_X9_seal
set_option maxRecDepth 20000 in
theorem ggL_law_L_burst : GoodIn wsL_law wsL_burst := goodIn_ca (goodIn_ca (goodIn_r _ [480, 78, 79, 481, 482, 483, 2, 484, 16, 85, 86, 87, 88, 89, 90, 91, 92, 152, 153, 154, 93, 94, 95, 96, 97, 98, 99, 100, 101, 102, 103, 104, 105, 106, 107, 108, 225, 226, 227, 228, 36, 173, 174, 175, 109, 110, 111, 112, 35, 1326, 1327, 1307, 1308, 1309, 1310, 1311, 1312, 1313, 1314, 1315, 1316] (by eq_refl) (by decide +kernel)) (goodIn_sub (fun _ h => List.mem_append_left _ (List.mem_append_right _ h)) (by decide +kernel))) (goodIn_sub (fun _ h => List.mem_append_right _ h) (by decide +kernel))
set_option maxRecDepth 20000 in
theorem gL_law_L_burst : GoodIn wsL_law (va_wsS RL 224 yL_burst wsL_burst) := goodIn_app (goodIn_c chL_law chL_law_in _ [(19, 22), (19, 23), (3, 4)] (by eq_refl) (by decide +kernel)) ggL_law_L_burst
set_option maxRecDepth 20000 in
theorem ggL_law_X9_burst : GoodIn wsL_law wsX9_burst := goodIn_r _ [488, 66, 117, 118, 5, 119, 163, 164, 165, 120, 121, 122, 123, 124, 125, 126, 127, 128, 129, 104, 130, 131, 132, 133, 134, 135, 233, 234, 235, 236, 237, 180, 181, 182, 183, 103, 105, 106, 107, 108, 136, 137, 138, 139, 140, 1317, 1318, 1319, 1320, 1321, 1322, 1323, 1324, 1325] (by eq_refl) gw_wsX9_burst
set_option maxRecDepth 20000 in
theorem gL_law_X9_burst : GoodIn wsL_law (wsV RL 226 RX9 yX9_burst wsX9_burst) := goodIn_app (goodIn_c chL_law chL_law_in _ [(20, 5), (20, 6), (20, 7), (0, 5)] (by eq_refl) (by decide +kernel)) ggL_law_X9_burst
set_option maxRecDepth 20000 in
theorem ggL_law_L_factor : GoodIn wsL_law wsL_factor := goodIn_ca (goodIn_ca (goodIn_r _ [491, 78, 79, 492, 493, 494, 2, 495, 16, 32, 20, 85, 86, 87, 88, 89, 90, 91, 92, 93, 94, 95, 96, 97, 98, 99, 100, 101, 102, 103, 104, 105, 106, 107, 108, 225, 226, 227, 228, 36, 496, 497, 498, 31, 499, 500, 501, 502, 503, 19, 504, 44, 505, 506, 443, 444, 369, 350, 351, 248, 299, 156, 157, 507, 508, 509, 510, 42, 511, 333, 334, 512, 513, 514, 515, 60, 516, 517, 518, 519, 414, 319, 320, 520, 367, 368, 521, 522, 523, 524, 525, 526, 527, 528, 529, 530, 531, 532, 533, 534, 535, 536, 537, 538, 539, 540, 541, 542, 43, 543, 544, 545, 546, 547, 548, 549, 550, 109, 110, 111, 112, 35, 1326, 1327, 1307, 1308, 1309, 1310, 1311, 1312, 1313, 1314, 1315, 1316, 1328, 1329, 1330, 1339] (by eq_refl) (by decide +kernel)) (goodIn_sub (fun _ h => List.mem_append_left _ (List.mem_append_right _ h)) (by decide +kernel))) (goodIn_sub (fun _ h => List.mem_append_right _ h) (by decide +kernel))
set_option maxRecDepth 20000 in
theorem gL_law_L_factor : GoodIn wsL_law (va_wsS RL 227 yL_factor wsL_factor) := goodIn_app (goodIn_c chL_law chL_law_in _ [(20, 9), (20, 10), (3, 4)] (by eq_refl) (by decide +kernel)) ggL_law_L_factor
set_option maxRecDepth 20000 in
theorem ggL_law_X9_factor : GoodIn wsL_law wsX9_factor := goodIn_r _ [554, 66, 555, 67, 117, 118, 5, 119, 120, 121, 122, 123, 124, 125, 126, 127, 128, 129, 104, 130, 131, 132, 133, 134, 135, 233, 234, 235, 236, 237, 556, 557, 558, 450, 356, 357, 358, 339, 340, 341, 308, 309, 310, 136, 137, 138, 139, 140, 1317, 1318, 1319, 1320, 1321, 1322, 1323, 1324, 1325] (by eq_refl) gw_wsX9_factor
set_option maxRecDepth 20000 in
theorem gL_law_X9_factor : GoodIn wsL_law (wsV RL 229 RX9 yX9_factor wsX9_factor) := goodIn_app (goodIn_c chL_law chL_law_in _ [(22, 23), (23, 0), (23, 1), (0, 5)] (by eq_refl) (by decide +kernel)) ggL_law_X9_factor
set_option maxRecDepth 20000 in
theorem ggL_law_L_enroll : GoodIn wsL_law wsL_enroll := goodIn_ca (goodIn_r _ [561, 78, 562, 563, 564, 2, 565, 20, 16, 85, 86, 87, 88, 89, 90, 91, 92, 225, 226, 227, 228, 36, 566, 508, 509, 19, 510, 44, 42, 109, 110, 111, 112, 35, 1326, 1327, 1307, 1308, 1309, 1310, 1311, 1312, 1313, 1314, 1315, 1316, 1328, 1329, 1330] (by eq_refl) (by decide +kernel)) (goodIn_sub (fun _ h => List.mem_append_left _ (List.mem_append_right _ h)) (by decide +kernel))
set_option maxRecDepth 20000 in
theorem gL_law_L_enroll : GoodIn wsL_law (va_wsS RL 230 yL_enroll wsL_enroll) := goodIn_app (goodIn_c chL_law chL_law_in _ [(23, 7), (23, 8), (3, 4)] (by eq_refl) (by decide +kernel)) ggL_law_L_enroll
set_option maxRecDepth 20000 in
theorem ggL_law_X9_enroll : GoodIn wsL_law wsX9_enroll := goodIn_r _ [570, 555, 67, 66, 117, 118, 5, 119, 199, 200, 201, 202, 120, 121, 122, 123, 124, 233, 234, 235, 236, 237, 136, 137, 138, 139, 140, 1317, 1318, 1319, 1320, 1321, 1322, 1323, 1324, 1325] (by eq_refl) gw_wsX9_enroll
set_option maxRecDepth 20000 in
theorem gL_law_X9_enroll : GoodIn wsL_law (wsV RL 232 RX9 yX9_enroll wsX9_enroll) := goodIn_app (goodIn_c chL_law chL_law_in _ [(23, 15), (23, 16), (23, 17), (0, 5)] (by eq_refl) (by decide +kernel)) ggL_law_X9_enroll
set_option maxRecDepth 20000 in
theorem ggL_law_L_strike : GoodIn wsL_law wsL_strike := goodIn_ca (goodIn_r _ [573, 78, 574, 575, 576, 2, 577, 20, 578, 579, 580, 581, 88, 89, 90, 91, 92, 582, 526, 527, 19, 528, 44, 42, 583, 584, 585, 586, 98, 99, 100, 101, 102, 103, 104, 105, 106, 107, 108, 109, 110, 111, 112, 35, 1326, 1327, 1307, 1308, 1309, 1310, 1311, 1312, 1313, 1314, 1315, 1316, 1328, 1329, 1330] (by eq_refl) (by decide +kernel)) (goodIn_sub (fun _ h => List.mem_append_left _ (List.mem_append_right _ h)) (by decide +kernel))
set_option maxRecDepth 20000 in
theorem gL_law_L_strike : GoodIn wsL_law (va_wsS RL 233 yL_strike wsL_strike) := goodIn_app (goodIn_c chL_law chL_law_in _ [(23, 19), (23, 20), (3, 4)] (by eq_refl) (by decide +kernel)) ggL_law_L_strike
set_option maxRecDepth 20000 in
theorem ggL_law_X9_strike : GoodIn wsL_law wsX9_strike := goodIn_r _ [590, 555, 67, 199, 200, 201, 5, 202, 120, 121, 122, 123, 124, 125, 126, 127, 128, 129, 104, 130, 131, 132, 133, 134, 135, 136, 137, 138, 139, 140, 1317, 1318, 1319, 1320, 1321, 1322, 1323, 1324, 1325] (by eq_refl) gw_wsX9_strike
set_option maxRecDepth 20000 in
theorem gL_law_X9_strike : GoodIn wsL_law (wsV RL 235 RX9 yX9_strike wsX9_strike) := goodIn_app (goodIn_c chL_law chL_law_in _ [(24, 11), (24, 12), (24, 13), (0, 5)] (by eq_refl) (by decide +kernel)) ggL_law_X9_strike
set_option maxRecDepth 20000 in
theorem ggL_law_X7_clear : GoodIn wsL_law wsX7_clear := goodIn_r _ [594, 20, 595, 502, 503, 19, 504, 44, 109, 110, 111, 2, 112, 35, 1307, 1308, 1309, 1310, 1311, 1312, 1313, 1314, 1315, 1316, 1328, 1329, 1330] (by eq_refl) gw_wsX7_clear
set_option maxRecDepth 20000 in
theorem gL_law_X7_clear : GoodIn wsL_law (wsV RL 236 RX7 yX7_clear wsX7_clear) := goodIn_app (goodIn_c chL_law chL_law_in _ [(24, 15), (24, 16), (24, 17), (0, 2)] (by eq_refl) (by decide +kernel)) ggL_law_X7_clear
set_option maxRecDepth 20000 in
theorem ggL_law_X9_clear : GoodIn wsL_law wsX9_clear := goodIn_r _ [599, 124, 555, 136, 137, 138, 5, 139, 140, 1317, 1318, 1319, 1320, 1321, 1322, 1323, 1324, 1325] (by eq_refl) gw_wsX9_clear
set_option maxRecDepth 20000 in
theorem gL_law_X9_clear : GoodIn wsL_law (wsV RL 239 RX9 yX9_clear wsX9_clear) := goodIn_app (goodIn_c chL_law chL_law_in _ [(24, 20), (24, 21), (24, 22), (0, 5)] (by eq_refl) (by decide +kernel)) ggL_law_X9_clear
set_option maxRecDepth 20000 in
theorem ggL_law_X7_sort : GoodIn wsL_law wsX7_sort := goodIn_r _ [603, 20, 539, 540, 541, 19, 542, 42, 43, 543, 544, 545, 546, 44, 547, 548, 549, 550, 109, 110, 111, 2, 112, 35, 1307, 1308, 1309, 1310, 1311, 1312, 1313, 1314, 1315, 1316, 1328, 1329, 1330] (by eq_refl) gw_wsX7_sort
set_option maxRecDepth 20000 in
theorem gL_law_X7_sort : GoodIn wsL_law (wsV RL 240 RX7 yX7_sort wsX7_sort) := goodIn_app (goodIn_c chL_law chL_law_in _ [(25, 0), (25, 1), (25, 2), (0, 2)] (by eq_refl) (by decide +kernel)) ggL_law_X7_sort
set_option maxRecDepth 20000 in
theorem ggL_law_X9_sort : GoodIn wsL_law wsX9_sort := goodIn_r _ [607, 124, 555, 15, 67, 136, 137, 138, 5, 139, 140, 1317, 1318, 1319, 1320, 1321, 1322, 1323, 1324, 1325] (by eq_refl) gw_wsX9_sort
set_option maxRecDepth 20000 in
theorem gL_law_X9_sort : GoodIn wsL_law (wsV RL 244 RX9 yX9_sort wsX9_sort) := goodIn_app (goodIn_c chL_law chL_law_in _ [(25, 4), (25, 5), (25, 6), (0, 5)] (by eq_refl) (by decide +kernel)) ggL_law_X9_sort
set_option maxRecDepth 20000 in
theorem ggL_law_X7_turnAll : GoodIn wsL_law wsX7_turnAll := goodIn_r _ [611, 20, 612, 613, 614, 19, 615, 42, 43, 543, 544, 545, 546, 44, 616, 246, 100, 247, 248, 99, 101, 102, 103, 104, 105, 106, 107, 108, 547, 548, 549, 550, 109, 110, 111, 2, 112, 35, 1307, 1308, 1309, 1310, 1311, 1312, 1313, 1314, 1315, 1316, 1328, 1329, 1330] (by eq_refl) gw_wsX7_turnAll
set_option maxRecDepth 20000 in
theorem gL_law_X7_turnAll : GoodIn wsL_law (wsV RL 245 RX7 yX7_turnAll wsX7_turnAll) := goodIn_app (goodIn_c chL_law chL_law_in _ [(25, 8), (25, 9), (25, 10), (0, 2)] (by eq_refl) (by decide +kernel)) ggL_law_X7_turnAll
set_option maxRecDepth 20000 in
theorem ggL_law_X9_turnAll : GoodIn wsL_law wsX9_turnAll := goodIn_r _ [620, 124, 555, 67, 253, 254, 5, 255, 125, 126, 127, 128, 129, 104, 130, 131, 132, 133, 134, 135, 136, 137, 138, 139, 140, 1317, 1318, 1319, 1320, 1321, 1322, 1323, 1324, 1325] (by eq_refl) gw_wsX9_turnAll
set_option maxRecDepth 20000 in
theorem gL_law_X9_turnAll : GoodIn wsL_law (wsV RL 248 RX9 yX9_turnAll wsX9_turnAll) := goodIn_app (goodIn_c chL_law chL_law_in _ [(25, 17), (25, 18), (25, 19), (0, 5)] (by eq_refl) (by decide +kernel)) ggL_law_X9_turnAll
set_option maxRecDepth 20000 in
theorem ggL_law_L_take : GoodIn wsL_law wsL_take := goodIn_ca (goodIn_r _ [623, 78, 624, 625, 626, 2, 627, 20, 578, 579, 580, 581, 88, 89, 90, 91, 92, 85, 86, 87, 582, 526, 527, 19, 528, 44, 42, 191, 192, 193, 194, 16, 98, 99, 100, 101, 102, 103, 104, 105, 106, 107, 108, 109, 110, 111, 112, 35, 1326, 1327, 1307, 1308, 1309, 1310, 1311, 1312, 1313, 1314, 1315, 1316, 1328, 1329, 1330] (by eq_refl) (by decide +kernel)) (goodIn_sub (fun _ h => List.mem_append_left _ (List.mem_append_right _ h)) (by decide +kernel))
set_option maxRecDepth 20000 in
theorem gL_law_L_take : GoodIn wsL_law (va_wsS RL 249 yL_take wsL_take) := goodIn_app (goodIn_c chL_law chL_law_in _ [(25, 21), (25, 22), (3, 4)] (by eq_refl) (by decide +kernel)) ggL_law_L_take
set_option maxRecDepth 20000 in
theorem ggL_law_X9_take : GoodIn wsL_law wsX9_take := goodIn_r _ [631, 555, 67, 117, 118, 5, 119, 199, 200, 201, 202, 120, 121, 122, 123, 124, 203, 204, 205, 206, 66, 125, 126, 127, 128, 129, 104, 130, 131, 132, 133, 134, 135, 136, 137, 138, 139, 140, 1317, 1318, 1319, 1320, 1321, 1322, 1323, 1324, 1325] (by eq_refl) gw_wsX9_take
set_option maxRecDepth 20000 in
theorem gL_law_X9_take : GoodIn wsL_law (wsV RL 251 RX9 yX9_take wsX9_take) := goodIn_app (goodIn_c chL_law chL_law_in _ [(26, 4), (26, 5), (26, 6), (0, 5)] (by eq_refl) (by decide +kernel)) ggL_law_X9_take
set_option maxRecDepth 20000 in
theorem ggL_law_L_product : GoodIn wsL_law wsL_product := goodIn_ca (goodIn_r _ [634, 78, 635, 636, 637, 2, 638, 20, 85, 86, 87, 88, 89, 90, 91, 92, 639, 640, 641, 19, 642, 44, 42, 643, 644, 645, 646, 647, 99, 100, 101, 102, 103, 104, 105, 106, 107, 108, 225, 226, 227, 228, 36, 648, 649, 650, 651, 652, 653, 297, 298, 248, 299, 156, 157, 191, 192, 193, 194, 16, 98, 109, 110, 111, 112, 35, 1326, 1327, 1307, 1308, 1309, 1310, 1311, 1312, 1313, 1314, 1315, 1316, 1328, 1329, 1330] (by eq_refl) (by decide +kernel)) (goodIn_sub (fun _ h => List.mem_append_left _ (List.mem_append_right _ h)) (by decide +kernel))
set_option maxRecDepth 20000 in
theorem gL_law_L_product : GoodIn wsL_law (va_wsS RL 252 yL_product wsL_product) := goodIn_app (goodIn_c chL_law chL_law_in _ [(26, 8), (26, 9), (3, 4)] (by eq_refl) (by decide +kernel)) ggL_law_L_product
set_option maxRecDepth 20000 in
theorem ggL_law_X9_product : GoodIn wsL_law wsX9_product := goodIn_r _ [657, 555, 67, 117, 118, 5, 119, 199, 200, 201, 202, 120, 121, 122, 123, 124, 125, 126, 127, 128, 129, 104, 130, 131, 132, 133, 134, 135, 233, 234, 235, 236, 237, 308, 309, 310, 203, 204, 205, 206, 66, 136, 137, 138, 139, 140, 1317, 1318, 1319, 1320, 1321, 1322, 1323, 1324, 1325] (by eq_refl) gw_wsX9_product
set_option maxRecDepth 20000 in
theorem gL_law_X9_product : GoodIn wsL_law (wsV RL 254 RX9 yX9_product wsX9_product) := goodIn_app (goodIn_c chL_law chL_law_in _ [(27, 6), (27, 7), (27, 8), (0, 5)] (by eq_refl) (by decide +kernel)) ggL_law_X9_product
set_option maxRecDepth 20000 in
theorem ggL_law_L_start : GoodIn wsL_law wsL_start := goodIn_ca (goodIn_r _ [660, 78, 661, 662, 663, 2, 664, 16, 24, 85, 86, 87, 88, 89, 90, 91, 92, 665, 666, 667, 668, 669, 99, 100, 101, 102, 103, 104, 105, 106, 107, 108, 670, 156, 157, 225, 226, 227, 228, 36, 671, 672, 673, 23, 674, 50, 51, 675, 676, 677, 678, 98, 109, 110, 111, 112, 35, 1326, 1327, 1307, 1308, 1309, 1310, 1311, 1312, 1313, 1314, 1315, 1316, 1331, 1332] (by eq_refl) (by decide +kernel)) (goodIn_sub (fun _ h => List.mem_append_left _ (List.mem_append_right _ h)) (by decide +kernel))
set_option maxRecDepth 20000 in
theorem gL_law_L_start : GoodIn wsL_law (va_wsS RL 255 yL_start wsL_start) := goodIn_app (goodIn_c chL_law chL_law_in _ [(27, 10), (27, 11), (3, 4)] (by eq_refl) (by decide +kernel)) ggL_law_L_start
set_option maxRecDepth 20000 in
theorem ggL_law_X9_start : GoodIn wsL_law wsX9_start := goodIn_r _ [682, 66, 69, 70, 117, 118, 5, 119, 199, 200, 201, 202, 120, 121, 122, 123, 124, 683, 684, 685, 125, 126, 127, 128, 129, 104, 130, 131, 132, 133, 134, 135, 233, 234, 235, 236, 237, 136, 137, 138, 139, 140, 1317, 1318, 1319, 1320, 1321, 1322, 1323, 1324, 1325] (by eq_refl) gw_wsX9_start
set_option maxRecDepth 20000 in
theorem gL_law_X9_start : GoodIn wsL_law (wsV RL 257 RX9 yX9_start wsX9_start) := goodIn_app (goodIn_c chL_law chL_law_in _ [(28, 7), (28, 8), (28, 9), (0, 5)] (by eq_refl) (by decide +kernel)) ggL_law_X9_start
