set_option maxRecDepth 20000 in
theorem ggL_law_X9_common : GoodIn wsL_law wsX9_common := goodIn_r _ [369, 66, 278, 279, 280, 5, 281, 117, 118, 119, 195, 196, 197, 198, 120, 121, 122, 123, 124, 370, 371, 372, 352, 353, 354, 335, 336, 337, 125, 126, 127, 128, 129, 104, 130, 131, 132, 133, 134, 135, 304, 305, 306, 199, 200, 201, 202, 136, 137, 138, 139, 140, 1317, 1318, 1319, 1320, 1321, 1322, 1323, 1324, 1325] (by decide +kernel) (by decide +kernel)
set_option maxRecDepth 20000 in
theorem gL_law_X9_common : GoodIn wsL_law (wsV RL 206 RX9 yX9_common wsX9_common) := goodIn_app (goodIn_of _ (by decide +kernel)) ggL_law_X9_common
set_option maxRecDepth 20000 in
theorem ggL_law_L_multipliers : GoodIn wsL_law wsL_multipliers := goodIn_ca (goodIn_ca (goodIn_r _ [375, 78, 79, 376, 377, 378, 2, 379, 96, 97, 28, 16, 271, 272, 273, 85, 86, 87, 88, 89, 90, 91, 92, 380, 381, 382, 27, 383, 384, 385, 386, 387, 388, 389, 390, 329, 100, 330, 244, 99, 101, 102, 103, 104, 105, 106, 107, 108, 295, 152, 153, 391, 392, 393, 394, 395, 293, 294, 98, 109, 110, 111, 112, 35, 1326, 1327, 1307, 1308, 1309, 1310, 1311, 1312, 1313, 1314, 1315, 1316, 1333, 1334, 1335, 1336, 1337, 1338] (by decide +kernel) (by decide +kernel)) (goodIn_sub (fun _ h => List.mem_append_right _ h) (by decide +kernel))) (goodIn_sub (fun _ h => List.mem_append_left _ (List.mem_append_right _ h)) (by decide +kernel))
set_option maxRecDepth 20000 in
theorem gL_law_L_multipliers : GoodIn wsL_law (va_wsS RL 207 yL_multipliers wsL_multipliers) := goodIn_app (goodIn_of _ (by decide +kernel)) ggL_law_L_multipliers
set_option maxRecDepth 20000 in
theorem ggL_law_X9_multipliers : GoodIn wsL_law wsX9_multipliers := goodIn_r _ [399, 15, 66, 117, 118, 5, 119, 120, 121, 122, 123, 124, 335, 336, 337, 125, 126, 127, 128, 129, 104, 130, 131, 132, 133, 134, 135, 304, 305, 306, 136, 137, 138, 139, 140, 1317, 1318, 1319, 1320, 1321, 1322, 1323, 1324, 1325] (by decide +kernel) (by decide +kernel)
set_option maxRecDepth 20000 in
theorem gL_law_X9_multipliers : GoodIn wsL_law (wsV RL 210 RX9 yX9_multipliers wsX9_multipliers) := goodIn_app (goodIn_of _ (by decide +kernel)) ggL_law_X9_multipliers
set_option maxRecDepth 20000 in
theorem ggL_law_L_power : GoodIn wsL_law wsL_power := goodIn_ca (goodIn_ca (goodIn_r _ [402, 78, 79, 403, 404, 405, 2, 406, 16, 271, 272, 273, 85, 86, 87, 88, 89, 90, 91, 92, 93, 94, 95, 96, 97, 98, 99, 100, 101, 102, 103, 104, 105, 106, 107, 108, 221, 222, 223, 224, 36, 407, 408, 409, 365, 346, 347, 244, 295, 152, 153, 410, 315, 316, 411, 293, 294, 187, 188, 189, 190, 109, 110, 111, 112, 35, 1326, 1327, 1307, 1308, 1309, 1310, 1311, 1312, 1313, 1314, 1315, 1316] (by decide +kernel) (by decide +kernel)) (goodIn_sub (fun _ h => List.mem_append_left _ (List.mem_append_right _ h)) (by decide +kernel))) (goodIn_sub (fun _ h => List.mem_append_right _ h) (by decide +kernel))
set_option maxRecDepth 20000 in
theorem gL_law_L_power : GoodIn wsL_law (va_wsS RL 211 yL_power wsL_power) := goodIn_app (goodIn_of _ (by decide +kernel)) ggL_law_L_power
set_option maxRecDepth 20000 in
theorem ggL_law_X9_power : GoodIn wsL_law wsX9_power := goodIn_r _ [415, 66, 117, 118, 5, 119, 120, 121, 122, 123, 124, 125, 126, 127, 128, 129, 104, 130, 131, 132, 133, 134, 135, 229, 230, 231, 232, 233, 416, 417, 418, 352, 353, 354, 335, 336, 337, 304, 305, 306, 199, 200, 201, 202, 136, 137, 138, 139, 140, 1317, 1318, 1319, 1320, 1321, 1322, 1323, 1324, 1325] (by decide +kernel) (by decide +kernel)
set_option maxRecDepth 20000 in
theorem gL_law_X9_power : GoodIn wsL_law (wsV RL 213 RX9 yX9_power wsX9_power) := goodIn_app (goodIn_of _ (by decide +kernel)) ggL_law_X9_power
set_option maxRecDepth 20000 in
theorem ggL_law_L_allPrimes : GoodIn wsL_law wsL_allPrimes := goodIn_ca (goodIn_ca (goodIn_r _ [421, 78, 79, 422, 423, 424, 2, 425, 85, 86, 87, 88, 89, 90, 91, 92, 93, 94, 95, 96, 97, 426, 427, 428, 429, 430, 431, 432, 433, 434, 435, 436, 437, 99, 100, 101, 102, 103, 104, 105, 106, 107, 108, 438, 439, 440, 365, 346, 347, 244, 295, 152, 153, 441, 293, 294, 187, 188, 189, 190, 16, 98, 109, 110, 111, 112, 35, 1326, 1327, 1307, 1308, 1309, 1310, 1311, 1312, 1313, 1314, 1315, 1316] (by decide +kernel) (by decide +kernel)) (goodIn_sub (fun _ h => List.mem_append_left _ (List.mem_append_right _ h)) (by decide +kernel))) (goodIn_sub (fun _ h => List.mem_append_right _ h) (by decide +kernel))
set_option maxRecDepth 20000 in
theorem gL_law_L_allPrimes : GoodIn wsL_law (va_wsS RL 214 yL_allPrimes wsL_allPrimes) := goodIn_app (goodIn_of _ (by decide +kernel)) ggL_law_L_allPrimes
set_option maxRecDepth 20000 in
theorem ggL_law_X9_allPrimes : GoodIn wsL_law wsX9_allPrimes := goodIn_r _ [445, 446, 117, 118, 5, 119, 120, 121, 122, 123, 124, 447, 448, 449, 125, 126, 127, 128, 129, 104, 130, 131, 132, 133, 134, 135, 352, 353, 354, 335, 336, 337, 304, 305, 306, 199, 200, 201, 202, 66, 136, 137, 138, 139, 140, 1317, 1318, 1319, 1320, 1321, 1322, 1323, 1324, 1325] (by decide +kernel) (by decide +kernel)
set_option maxRecDepth 20000 in
theorem gL_law_X9_allPrimes : GoodIn wsL_law (wsV RL 216 RX9 yX9_allPrimes wsX9_allPrimes) := goodIn_app (goodIn_of _ (by decide +kernel)) ggL_law_X9_allPrimes
set_option maxRecDepth 20000 in
theorem ggL_law_L_seal : GoodIn wsL_law wsL_seal := goodIn_ca (goodIn_r _ [452, 78, 453, 454, 455, 2, 456, 16, 271, 272, 273, 85, 86, 87, 88, 89, 90, 91, 92, 98, 99, 100, 101, 102, 103, 104, 105, 106, 107, 108, 457, 458, 459, 460, 221, 222, 223, 224, 36, 461, 462, 463, 244, 365, 346, 347, 295, 152, 153, 169, 170, 171, 109, 110, 111, 112, 35, 1326, 1327, 1307, 1308, 1309, 1310, 1311, 1312, 1313, 1314, 1315, 1316] (by decide +kernel) (by decide +kernel)) (goodIn_sub (fun _ h => List.mem_append_left _ (List.mem_append_right _ h)) (by decide +kernel))
set_option maxRecDepth 20000 in
theorem gL_law_L_seal : GoodIn wsL_law (va_wsS RL 217 yL_seal wsL_seal) := goodIn_app (goodIn_of _ (by decide +kernel)) ggL_law_L_seal
set_option maxRecDepth 20000 in
theorem ggL_law_X9_seal : GoodIn wsL_law wsX9_seal := goodIn_r _ [467, 66, 278, 279, 280, 5, 281, 117, 118, 119, 195, 196, 197, 198, 120, 121, 122, 123, 124, 468, 469, 470, 125, 126, 127, 128, 129, 104, 130, 131, 132, 133, 134, 135, 229, 230, 231, 232, 233, 471, 472, 473, 352, 353, 354, 335, 336, 337, 304, 305, 306, 176, 177, 178, 179, 103, 105, 106, 107, 108, 136, 137, 138, 139, 140, 1317, 1318, 1319, 1320, 1321, 1322, 1323, 1324, 1325] (by decide +kernel) (by decide +kernel)
set_option maxRecDepth 20000 in
theorem gL_law_X9_seal : GoodIn wsL_law (wsV RL 219 RX9 yX9_seal wsX9_seal) := goodIn_app (goodIn_of _ (by decide +kernel)) ggL_law_X9_seal
set_option maxRecDepth 20000 in
theorem ggL_law_L_burst : GoodIn wsL_law wsL_burst := goodIn_ca (goodIn_ca (goodIn_r _ [476, 78, 79, 477, 478, 479, 2, 480, 16, 85, 86, 87, 88, 89, 90, 91, 92, 148, 149, 150, 93, 94, 95, 96, 97, 98, 99, 100, 101, 102, 103, 104, 105, 106, 107, 108, 221, 222, 223, 224, 36, 169, 170, 171, 109, 110, 111, 112, 35, 1326, 1327, 1307, 1308, 1309, 1310, 1311, 1312, 1313, 1314, 1315, 1316] (by decide +kernel) (by decide +kernel)) (goodIn_sub (fun _ h => List.mem_append_left _ (List.mem_append_right _ h)) (by decide +kernel))) (goodIn_sub (fun _ h => List.mem_append_right _ h) (by decide +kernel))
set_option maxRecDepth 20000 in
theorem gL_law_L_burst : GoodIn wsL_law (va_wsS RL 220 yL_burst wsL_burst) := goodIn_app (goodIn_of _ (by decide +kernel)) ggL_law_L_burst
set_option maxRecDepth 20000 in
theorem ggL_law_X9_burst : GoodIn wsL_law wsX9_burst := goodIn_r _ [484, 66, 117, 118, 5, 119, 159, 160, 161, 120, 121, 122, 123, 124, 125, 126, 127, 128, 129, 104, 130, 131, 132, 133, 134, 135, 229, 230, 231, 232, 233, 176, 177, 178, 179, 103, 105, 106, 107, 108, 136, 137, 138, 139, 140, 1317, 1318, 1319, 1320, 1321, 1322, 1323, 1324, 1325] (by decide +kernel) (by decide +kernel)
set_option maxRecDepth 20000 in
theorem gL_law_X9_burst : GoodIn wsL_law (wsV RL 222 RX9 yX9_burst wsX9_burst) := goodIn_app (goodIn_of _ (by decide +kernel)) ggL_law_X9_burst
set_option maxRecDepth 20000 in
theorem ggL_law_L_factor : GoodIn wsL_law wsL_factor := goodIn_ca (goodIn_ca (goodIn_r _ [487, 78, 79, 488, 489, 490, 2, 491, 16, 32, 20, 85, 86, 87, 88, 89, 90, 91, 92, 93, 94, 95, 96, 97, 98, 99, 100, 101, 102, 103, 104, 105, 106, 107, 108, 221, 222, 223, 224, 36, 492, 493, 494, 31, 495, 496, 497, 498, 499, 19, 500, 44, 501, 502, 439, 440, 365, 346, 347, 244, 295, 152, 153, 503, 504, 505, 506, 42, 507, 329, 330, 508, 509, 510, 511, 60, 512, 513, 514, 515, 410, 315, 316, 516, 363, 364, 517, 518, 519, 520, 521, 522, 523, 524, 525, 526, 527, 528, 529, 530, 531, 532, 533, 534, 535, 536, 537, 538, 43, 539, 540, 541, 542, 543, 544, 545, 546, 109, 110, 111, 112, 35, 1326, 1327, 1307, 1308, 1309, 1310, 1311, 1312, 1313, 1314, 1315, 1316, 1328, 1329, 1330, 1339] (by decide +kernel) (by decide +kernel)) (goodIn_sub (fun _ h => List.mem_append_left _ (List.mem_append_right _ h)) (by decide +kernel))) (goodIn_sub (fun _ h => List.mem_append_right _ h) (by decide +kernel))
set_option maxRecDepth 20000 in
theorem gL_law_L_factor : GoodIn wsL_law (va_wsS RL 223 yL_factor wsL_factor) := goodIn_app (goodIn_of _ (by decide +kernel)) ggL_law_L_factor
set_option maxRecDepth 20000 in
theorem ggL_law_X9_factor : GoodIn wsL_law wsX9_factor := goodIn_r _ [550, 66, 551, 67, 117, 118, 5, 119, 120, 121, 122, 123, 124, 125, 126, 127, 128, 129, 104, 130, 131, 132, 133, 134, 135, 229, 230, 231, 232, 233, 552, 553, 554, 446, 352, 353, 354, 335, 336, 337, 304, 305, 306, 136, 137, 138, 139, 140, 1317, 1318, 1319, 1320, 1321, 1322, 1323, 1324, 1325] (by decide +kernel) (by decide +kernel)
set_option maxRecDepth 20000 in
theorem gL_law_X9_factor : GoodIn wsL_law (wsV RL 225 RX9 yX9_factor wsX9_factor) := goodIn_app (goodIn_of _ (by decide +kernel)) ggL_law_X9_factor
set_option maxRecDepth 20000 in
theorem ggL_law_L_enroll : GoodIn wsL_law wsL_enroll := goodIn_ca (goodIn_r _ [557, 78, 558, 559, 560, 2, 561, 20, 16, 85, 86, 87, 88, 89, 90, 91, 92, 221, 222, 223, 224, 36, 562, 504, 505, 19, 506, 44, 42, 109, 110, 111, 112, 35, 1326, 1327, 1307, 1308, 1309, 1310, 1311, 1312, 1313, 1314, 1315, 1316, 1328, 1329, 1330] (by decide +kernel) (by decide +kernel)) (goodIn_sub (fun _ h => List.mem_append_left _ (List.mem_append_right _ h)) (by decide +kernel))
set_option maxRecDepth 20000 in
theorem gL_law_L_enroll : GoodIn wsL_law (va_wsS RL 226 yL_enroll wsL_enroll) := goodIn_app (goodIn_of _ (by decide +kernel)) ggL_law_L_enroll
set_option maxRecDepth 20000 in
theorem ggL_law_X9_enroll : GoodIn wsL_law wsX9_enroll := goodIn_r _ [566, 551, 67, 66, 117, 118, 5, 119, 195, 196, 197, 198, 120, 121, 122, 123, 124, 229, 230, 231, 232, 233, 136, 137, 138, 139, 140, 1317, 1318, 1319, 1320, 1321, 1322, 1323, 1324, 1325] (by decide +kernel) (by decide +kernel)
set_option maxRecDepth 20000 in
theorem gL_law_X9_enroll : GoodIn wsL_law (wsV RL 228 RX9 yX9_enroll wsX9_enroll) := goodIn_app (goodIn_of _ (by decide +kernel)) ggL_law_X9_enroll
set_option maxRecDepth 20000 in
theorem ggL_law_L_strike : GoodIn wsL_law wsL_strike := goodIn_ca (goodIn_r _ [569, 78, 570, 571, 572, 2, 573, 20, 574, 575, 576, 577, 88, 89, 90, 91, 92, 578, 522, 523, 19, 524, 44, 42, 579, 580, 581, 582, 98, 99, 100, 101, 102, 103, 104, 105, 106, 107, 108, 109, 110, 111, 112, 35, 1326, 1327, 1307, 1308, 1309, 1310, 1311, 1312, 1313, 1314, 1315, 1316, 1328, 1329, 1330] (by decide +kernel) (by decide +kernel)) (goodIn_sub (fun _ h => List.mem_append_left _ (List.mem_append_right _ h)) (by decide +kernel))
set_option maxRecDepth 20000 in
theorem gL_law_L_strike : GoodIn wsL_law (va_wsS RL 229 yL_strike wsL_strike) := goodIn_app (goodIn_of _ (by decide +kernel)) ggL_law_L_strike
set_option maxRecDepth 20000 in
theorem ggL_law_X9_strike : GoodIn wsL_law wsX9_strike := goodIn_r _ [586, 551, 67, 195, 196, 197, 5, 198, 120, 121, 122, 123, 124, 125, 126, 127, 128, 129, 104, 130, 131, 132, 133, 134, 135, 136, 137, 138, 139, 140, 1317, 1318, 1319, 1320, 1321, 1322, 1323, 1324, 1325] (by decide +kernel) (by decide +kernel)
set_option maxRecDepth 20000 in
theorem gL_law_X9_strike : GoodIn wsL_law (wsV RL 231 RX9 yX9_strike wsX9_strike) := goodIn_app (goodIn_of _ (by decide +kernel)) ggL_law_X9_strike
set_option maxRecDepth 20000 in
theorem ggL_law_X7_clear : GoodIn wsL_law wsX7_clear := goodIn_r _ [590, 20, 591, 498, 499, 19, 500, 44, 109, 110, 111, 2, 112, 35, 1307, 1308, 1309, 1310, 1311, 1312, 1313, 1314, 1315, 1316, 1328, 1329, 1330] (by decide +kernel) (by decide +kernel)
set_option maxRecDepth 20000 in
theorem gL_law_X7_clear : GoodIn wsL_law (wsV RL 232 RX7 yX7_clear wsX7_clear) := goodIn_app (goodIn_of _ (by decide +kernel)) ggL_law_X7_clear
set_option maxRecDepth 20000 in
theorem ggL_law_X9_clear : GoodIn wsL_law wsX9_clear := goodIn_r _ [595, 124, 551, 136, 137, 138, 5, 139, 140, 1317, 1318, 1319, 1320, 1321, 1322, 1323, 1324, 1325] (by decide +kernel) (by decide +kernel)
set_option maxRecDepth 20000 in
theorem gL_law_X9_clear : GoodIn wsL_law (wsV RL 236 RX9 yX9_clear wsX9_clear) := goodIn_app (goodIn_of _ (by decide +kernel)) ggL_law_X9_clear
set_option maxRecDepth 20000 in
theorem ggL_law_X7_sort : GoodIn wsL_law wsX7_sort := goodIn_r _ [599, 20, 535, 536, 537, 19, 538, 42, 43, 539, 540, 541, 542, 44, 543, 544, 545, 546, 109, 110, 111, 2, 112, 35, 1307, 1308, 1309, 1310, 1311, 1312, 1313, 1314, 1315, 1316, 1328, 1329, 1330] (by decide +kernel) (by decide +kernel)
set_option maxRecDepth 20000 in
theorem gL_law_X7_sort : GoodIn wsL_law (wsV RL 237 RX7 yX7_sort wsX7_sort) := goodIn_app (goodIn_of _ (by decide +kernel)) ggL_law_X7_sort
set_option maxRecDepth 20000 in
theorem ggL_law_X9_sort : GoodIn wsL_law wsX9_sort := goodIn_r _ [603, 124, 551, 15, 67, 136, 137, 138, 5, 139, 140, 1317, 1318, 1319, 1320, 1321, 1322, 1323, 1324, 1325] (by decide +kernel) (by decide +kernel)
set_option maxRecDepth 20000 in
theorem gL_law_X9_sort : GoodIn wsL_law (wsV RL 241 RX9 yX9_sort wsX9_sort) := goodIn_app (goodIn_of _ (by decide +kernel)) ggL_law_X9_sort
set_option maxRecDepth 20000 in
theorem ggL_law_X7_turnAll : GoodIn wsL_law wsX7_turnAll := goodIn_r _ [607, 20, 608, 609, 610, 19, 611, 42, 43, 539, 540, 541, 542, 44, 612, 242, 100, 243, 244, 99, 101, 102, 103, 104, 105, 106, 107, 108, 543, 544, 545, 546, 109, 110, 111, 2, 112, 35, 1307, 1308, 1309, 1310, 1311, 1312, 1313, 1314, 1315, 1316, 1328, 1329, 1330] (by decide +kernel) (by decide +kernel)
set_option maxRecDepth 20000 in
theorem gL_law_X7_turnAll : GoodIn wsL_law (wsV RL 242 RX7 yX7_turnAll wsX7_turnAll) := goodIn_app (goodIn_of _ (by decide +kernel)) ggL_law_X7_turnAll
set_option maxRecDepth 20000 in
theorem ggL_law_X9_turnAll : GoodIn wsL_law wsX9_turnAll := goodIn_r _ [616, 124, 551, 67, 249, 250, 5, 251, 125, 126, 127, 128, 129, 104, 130, 131, 132, 133, 134, 135, 136, 137, 138, 139, 140, 1317, 1318, 1319, 1320, 1321, 1322, 1323, 1324, 1325] (by decide +kernel) (by decide +kernel)
set_option maxRecDepth 20000 in
theorem gL_law_X9_turnAll : GoodIn wsL_law (wsV RL 245 RX9 yX9_turnAll wsX9_turnAll) := goodIn_app (goodIn_of _ (by decide +kernel)) ggL_law_X9_turnAll
set_option maxRecDepth 20000 in
theorem ggL_law_L_take : GoodIn wsL_law wsL_take := goodIn_ca (goodIn_r _ [619, 78, 620, 621, 622, 2, 623, 20, 574, 575, 576, 577, 88, 89, 90, 91, 92, 85, 86, 87, 578, 522, 523, 19, 524, 44, 42, 187, 188, 189, 190, 16, 98, 99, 100, 101, 102, 103, 104, 105, 106, 107, 108, 109, 110, 111, 112, 35, 1326, 1327, 1307, 1308, 1309, 1310, 1311, 1312, 1313, 1314, 1315, 1316, 1328, 1329, 1330] (by decide +kernel) (by decide +kernel)) (goodIn_sub (fun _ h => List.mem_append_left _ (List.mem_append_right _ h)) (by decide +kernel))
set_option maxRecDepth 20000 in
theorem gL_law_L_take : GoodIn wsL_law (va_wsS RL 246 yL_take wsL_take) := goodIn_app (goodIn_of _ (by decide +kernel)) ggL_law_L_take
set_option maxRecDepth 20000 in
theorem ggL_law_X9_take : GoodIn wsL_law wsX9_take := goodIn_r _ [627, 551, 67, 117, 118, 5, 119, 195, 196, 197, 198, 120, 121, 122, 123, 124, 199, 200, 201, 202, 66, 125, 126, 127, 128, 129, 104, 130, 131, 132, 133, 134, 135, 136, 137, 138, 139, 140, 1317, 1318, 1319, 1320, 1321, 1322, 1323, 1324, 1325] (by decide +kernel) (by decide +kernel)
set_option maxRecDepth 20000 in
theorem gL_law_X9_take : GoodIn wsL_law (wsV RL 248 RX9 yX9_take wsX9_take) := goodIn_app (goodIn_of _ (by decide +kernel)) ggL_law_X9_take
set_option maxRecDepth 20000 in
theorem ggL_law_L_product : GoodIn wsL_law wsL_product := goodIn_ca (goodIn_r _ [630, 78, 631, 632, 633, 2, 634, 20, 85, 86, 87, 88, 89, 90, 91, 92, 635, 636, 637, 19, 638, 44, 42, 639, 640, 641, 642, 643, 99, 100, 101, 102, 103, 104, 105, 106, 107, 108, 221, 222, 223, 224, 36, 644, 645, 646, 647, 648, 649, 293, 294, 244, 295, 152, 153, 187, 188, 189, 190, 16, 98, 109, 110, 111, 112, 35, 1326, 1327, 1307, 1308, 1309, 1310, 1311, 1312, 1313, 1314, 1315, 1316, 1328, 1329, 1330] (by decide +kernel) (by decide +kernel)) (goodIn_sub (fun _ h => List.mem_append_left _ (List.mem_append_right _ h)) (by decide +kernel))
set_option maxRecDepth 20000 in
theorem gL_law_L_product : GoodIn wsL_law (va_wsS RL 249 yL_product wsL_product) := goodIn_app (goodIn_of _ (by decide +kernel)) ggL_law_L_product
set_option maxRecDepth 20000 in
theorem ggL_law_X9_product : GoodIn wsL_law wsX9_product := goodIn_r _ [653, 551, 67, 117, 118, 5, 119, 195, 196, 197, 198, 120, 121, 122, 123, 124, 125, 126, 127, 128, 129, 104, 130, 131, 132, 133, 134, 135, 229, 230, 231, 232, 233, 304, 305, 306, 199, 200, 201, 202, 66, 136, 137, 138, 139, 140, 1317, 1318, 1319, 1320, 1321, 1322, 1323, 1324, 1325] (by decide +kernel) (by decide +kernel)
set_option maxRecDepth 20000 in
theorem gL_law_X9_product : GoodIn wsL_law (wsV RL 251 RX9 yX9_product wsX9_product) := goodIn_app (goodIn_of _ (by decide +kernel)) ggL_law_X9_product
set_option maxRecDepth 20000 in
theorem ggL_law_L_start : GoodIn wsL_law wsL_start := goodIn_ca (goodIn_r _ [656, 78, 657, 658, 659, 2, 660, 16, 24, 85, 86, 87, 88, 89, 90, 91, 92, 661, 662, 663, 664, 665, 99, 100, 101, 102, 103, 104, 105, 106, 107, 108, 666, 152, 153, 221, 222, 223, 224, 36, 667, 668, 669, 23, 670, 50, 51, 671, 672, 673, 674, 98, 109, 110, 111, 112, 35, 1326, 1327, 1307, 1308, 1309, 1310, 1311, 1312, 1313, 1314, 1315, 1316, 1331, 1332] (by decide +kernel) (by decide +kernel)) (goodIn_sub (fun _ h => List.mem_append_left _ (List.mem_append_right _ h)) (by decide +kernel))
set_option maxRecDepth 20000 in
theorem gL_law_L_start : GoodIn wsL_law (va_wsS RL 252 yL_start wsL_start) := goodIn_app (goodIn_of _ (by decide +kernel)) ggL_law_L_start
set_option maxRecDepth 20000 in
theorem ggL_law_X9_start : GoodIn wsL_law wsX9_start := goodIn_r _ [678, 66, 69, 70, 117, 118, 5, 119, 195, 196, 197, 198, 120, 121, 122, 123, 124, 679, 680, 681, 125, 126, 127, 128, 129, 104, 130, 131, 132, 133, 134, 135, 229, 230, 231, 232, 233, 136, 137, 138, 139, 140, 1317, 1318, 1319, 1320, 1321, 1322, 1323, 1324, 1325] (by decide +kernel) (by decide +kernel)
set_option maxRecDepth 20000 in
theorem gL_law_X9_start : GoodIn wsL_law (wsV RL 254 RX9 yX9_start wsX9_start) := goodIn_app (goodIn_of _ (by decide +kernel)) ggL_law_X9_start
set_option maxRecDepth 20000 in
theorem ggL_law_L_step : GoodIn wsL_law wsL_step := goodIn_ca (goodIn_r _ [684, 79, 685, 686, 687, 2, 688, 24, 93, 94, 95, 96, 97, 90, 91, 92, 689, 690, 691, 23, 692, 51, 50, 693, 694, 695, 696, 170, 100, 171, 102, 103, 104, 105, 106, 107, 108, 674, 99, 101, 109, 110, 111, 112, 35, 1326, 1327, 1307, 1308, 1309, 1310, 1311, 1312, 1313, 1314, 1315, 1316, 1331, 1332] (by decide +kernel) (by decide +kernel)) (goodIn_sub (fun _ h => List.mem_append_right _ h) (by decide +kernel))
set_option maxRecDepth 20000 in
theorem gL_law_L_step : GoodIn wsL_law (va_wsS RL 255 yL_step wsL_step) := goodIn_app (goodIn_of _ (by decide +kernel)) ggL_law_L_step
