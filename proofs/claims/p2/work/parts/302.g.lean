set_option maxRecDepth 20000 in
theorem ggL_law_L_step : GoodIn wsL_law wsL_step := goodIn_ca (goodIn_r _ [688, 79, 689, 690, 691, 2, 692, 24, 93, 94, 95, 96, 97, 90, 91, 92, 693, 694, 695, 23, 696, 51, 50, 697, 698, 699, 700, 174, 100, 175, 102, 103, 104, 105, 106, 107, 108, 678, 99, 101, 109, 110, 111, 112, 35, 1326, 1327, 1307, 1308, 1309, 1310, 1311, 1312, 1313, 1314, 1315, 1316, 1331, 1332] (by eq_refl) (by decide +kernel)) (goodIn_sub (fun _ h => List.mem_append_right _ h) (by decide +kernel))
set_option maxRecDepth 20000 in
theorem gL_law_L_step : GoodIn wsL_law (va_wsS RL 258 yL_step wsL_step) := goodIn_app (goodIn_c chL_law chL_law_in _ [(28, 14), (28, 15), (3, 4)] (by eq_refl) (by decide +kernel)) ggL_law_L_step
set_option maxRecDepth 20000 in
theorem ggL_law_X9_step : GoodIn wsL_law wsX9_step := goodIn_r _ [704, 70, 199, 200, 201, 5, 202, 120, 121, 122, 123, 124, 705, 706, 707, 708, 69, 125, 126, 127, 128, 129, 104, 130, 131, 132, 133, 134, 135, 180, 181, 182, 183, 103, 105, 106, 107, 108, 136, 137, 138, 139, 140, 1317, 1318, 1319, 1320, 1321, 1322, 1323, 1324, 1325] (by eq_refl) gw_wsX9_step
set_option maxRecDepth 20000 in
theorem gL_law_X9_step : GoodIn wsL_law (wsV RL 260 RX9 yX9_step wsX9_step) := goodIn_app (goodIn_c chL_law chL_law_in _ [(29, 5), (29, 6), (29, 7), (0, 5)] (by eq_refl) (by decide +kernel)) ggL_law_X9_step
set_option maxRecDepth 20000 in
theorem ggL_law_L_load : GoodIn wsL_law wsL_load := goodIn_ca (goodIn_r _ [711, 79, 712, 713, 714, 2, 715, 24, 93, 94, 95, 96, 97, 90, 91, 92, 98, 99, 100, 101, 102, 103, 104, 105, 106, 107, 108, 225, 226, 227, 228, 36, 173, 174, 175, 109, 110, 111, 112, 35, 1326, 1327, 1307, 1308, 1309, 1310, 1311, 1312, 1313, 1314, 1315, 1316, 1331, 1332] (by eq_refl) (by decide +kernel)) (goodIn_sub (fun _ h => List.mem_append_right _ h) (by decide +kernel))
set_option maxRecDepth 20000 in
theorem gL_law_L_load : GoodIn wsL_law (va_wsS RL 261 yL_load wsL_load) := goodIn_app (goodIn_c chL_law chL_law_in _ [(29, 13), (29, 14), (3, 4)] (by eq_refl) (by decide +kernel)) ggL_law_L_load
set_option maxRecDepth 20000 in
theorem ggL_law_X9_load : GoodIn wsL_law wsX9_load := goodIn_r _ [719, 69, 70, 199, 200, 201, 5, 202, 120, 121, 122, 123, 124, 125, 126, 127, 128, 129, 104, 130, 131, 132, 133, 134, 135, 233, 234, 235, 236, 237, 180, 181, 182, 183, 103, 105, 106, 107, 108, 136, 137, 138, 139, 140, 1317, 1318, 1319, 1320, 1321, 1322, 1323, 1324, 1325] (by eq_refl) gw_wsX9_load
set_option maxRecDepth 20000 in
theorem gL_law_X9_load : GoodIn wsL_law (wsV RL 263 RX9 yX9_load wsX9_load) := goodIn_app (goodIn_c chL_law chL_law_in _ [(29, 20), (29, 21), (29, 22), (0, 5)] (by eq_refl) (by decide +kernel)) ggL_law_X9_load
set_option maxRecDepth 20000 in
theorem ggL_law_L_degree : GoodIn wsL_law wsL_degree := goodIn_ca (goodIn_r _ [722, 78, 723, 724, 725, 2, 726, 16, 85, 86, 87, 88, 89, 90, 91, 92, 98, 99, 100, 101, 102, 103, 104, 105, 106, 107, 108, 1326, 1327, 1307, 1308, 1309, 1310, 1311, 1312, 1313, 1314, 1315, 1316] (by eq_refl) (by decide +kernel)) (goodIn_sub (fun _ h => List.mem_append_left _ (List.mem_append_right _ h)) (by decide +kernel))
set_option maxRecDepth 20000 in
theorem gL_law_L_degree : GoodIn wsL_law (va_wsS RL 264 yL_degree wsL_degree) := goodIn_app (goodIn_c chL_law chL_law_in _ [(30, 0), (30, 1), (3, 4)] (by eq_refl) (by decide +kernel)) ggL_law_L_degree
set_option maxRecDepth 20000 in
theorem ggL_law_X9_degree : GoodIn wsL_law wsX9_degree := goodIn_r _ [730, 66, 117, 118, 5, 119, 199, 200, 201, 202, 120, 121, 122, 123, 124, 125, 126, 127, 128, 129, 104, 130, 131, 132, 133, 134, 135, 1317, 1318, 1319, 1320, 1321, 1322, 1323, 1324, 1325] (by eq_refl) gw_wsX9_degree
set_option maxRecDepth 20000 in
theorem gL_law_X9_degree : GoodIn wsL_law (wsV RL 266 RX9 yX9_degree wsX9_degree) := goodIn_app (goodIn_c chL_law chL_law_in _ [(30, 7), (30, 8), (30, 9), (0, 5)] (by eq_refl) (by decide +kernel)) ggL_law_X9_degree
set_option maxRecDepth 20000 in
theorem ggL_law_L_code : GoodIn wsL_law wsL_code := goodIn_ca (goodIn_r _ [733, 78, 734, 735, 736, 2, 737, 16, 85, 86, 87, 88, 89, 90, 91, 92, 98, 99, 100, 101, 102, 103, 104, 105, 106, 107, 108, 1326, 1327, 1307, 1308, 1309, 1310, 1311, 1312, 1313, 1314, 1315, 1316] (by eq_refl) (by decide +kernel)) (goodIn_sub (fun _ h => List.mem_append_left _ (List.mem_append_right _ h)) (by decide +kernel))
set_option maxRecDepth 20000 in
theorem gL_law_L_code : GoodIn wsL_law (va_wsS RL 267 yL_code wsL_code) := goodIn_app (goodIn_c chL_law chL_law_in _ [(30, 11), (30, 12), (3, 4)] (by eq_refl) (by decide +kernel)) ggL_law_L_code
set_option maxRecDepth 20000 in
theorem ggL_law_X9_code : GoodIn wsL_law wsX9_code := goodIn_r _ [741, 66, 117, 118, 5, 119, 199, 200, 201, 202, 120, 121, 122, 123, 124, 125, 126, 127, 128, 129, 104, 130, 131, 132, 133, 134, 135, 1317, 1318, 1319, 1320, 1321, 1322, 1323, 1324, 1325] (by eq_refl) gw_wsX9_code
set_option maxRecDepth 20000 in
theorem gL_law_X9_code : GoodIn wsL_law (wsV RL 269 RX9 yX9_code wsX9_code) := goodIn_app (goodIn_c chL_law chL_law_in _ [(30, 18), (30, 19), (30, 20), (0, 5)] (by eq_refl) (by decide +kernel)) ggL_law_X9_code
set_option maxRecDepth 20000 in
theorem ggL_law_L_has : GoodIn wsL_law wsL_has := goodIn_ca (goodIn_r _ [744, 78, 745, 746, 747, 2, 748, 16, 85, 86, 87, 88, 89, 90, 91, 92, 152, 153, 154, 155, 156, 100, 157, 1326, 1327, 1307, 1308, 1309, 1310, 1311, 1312, 1313, 1314, 1315, 1316] (by eq_refl) (by decide +kernel)) (goodIn_sub (fun _ h => List.mem_append_left _ (List.mem_append_right _ h)) (by decide +kernel))
set_option maxRecDepth 20000 in
theorem gL_law_L_has : GoodIn wsL_law (va_wsS RL 270 yL_has wsL_has) := goodIn_app (goodIn_c chL_law chL_law_in _ [(30, 22), (30, 23), (3, 4)] (by eq_refl) (by decide +kernel)) ggL_law_L_has
set_option maxRecDepth 20000 in
theorem ggL_law_X9_has : GoodIn wsL_law wsX9_has := goodIn_r _ [752, 66, 117, 118, 5, 119, 163, 164, 165, 199, 200, 201, 202, 120, 121, 122, 123, 124, 1317, 1318, 1319, 1320, 1321, 1322, 1323, 1324, 1325] (by eq_refl) gw_wsX9_has
set_option maxRecDepth 20000 in
theorem gL_law_X9_has : GoodIn wsL_law (wsV RL 272 RX9 yX9_has wsX9_has) := goodIn_app (goodIn_c chL_law chL_law_in _ [(31, 5), (31, 6), (31, 7), (0, 5)] (by eq_refl) (by decide +kernel)) ggL_law_X9_has
set_option maxRecDepth 20000 in
theorem ggL_law_L_ones : GoodIn wsL_law wsL_ones := goodIn_ca (goodIn_r _ [755, 78, 756, 757, 758, 2, 759, 16, 85, 86, 87, 88, 89, 90, 91, 92, 173, 174, 100, 175, 102, 103, 104, 105, 106, 107, 108, 1326, 1327, 1307, 1308, 1309, 1310, 1311, 1312, 1313, 1314, 1315, 1316] (by eq_refl) (by decide +kernel)) (goodIn_sub (fun _ h => List.mem_append_left _ (List.mem_append_right _ h)) (by decide +kernel))
set_option maxRecDepth 20000 in
theorem gL_law_L_ones : GoodIn wsL_law (va_wsS RL 273 yL_ones wsL_ones) := goodIn_app (goodIn_c chL_law chL_law_in _ [(31, 9), (31, 10), (3, 4)] (by eq_refl) (by decide +kernel)) ggL_law_L_ones
set_option maxRecDepth 20000 in
theorem ggL_law_X9_ones : GoodIn wsL_law wsX9_ones := goodIn_r _ [763, 66, 117, 118, 5, 119, 199, 200, 201, 202, 120, 121, 122, 123, 124, 180, 181, 182, 183, 103, 104, 105, 106, 107, 108, 1317, 1318, 1319, 1320, 1321, 1322, 1323, 1324, 1325] (by eq_refl) gw_wsX9_ones
set_option maxRecDepth 20000 in
theorem gL_law_X9_ones : GoodIn wsL_law (wsV RL 275 RX9 yX9_ones wsX9_ones) := goodIn_app (goodIn_c chL_law chL_law_in _ [(31, 16), (31, 17), (31, 18), (0, 5)] (by eq_refl) (by decide +kernel)) ggL_law_X9_ones
set_option maxRecDepth 20000 in
theorem ggL_law_L_lowest : GoodIn wsL_law wsL_lowest := goodIn_ca (goodIn_r _ [766, 78, 767, 768, 769, 2, 770, 16, 85, 86, 87, 88, 89, 90, 91, 92, 771, 772, 100, 773, 248, 99, 101, 102, 103, 104, 105, 106, 107, 108, 1326, 1327, 1307, 1308, 1309, 1310, 1311, 1312, 1313, 1314, 1315, 1316] (by eq_refl) (by decide +kernel)) (goodIn_sub (fun _ h => List.mem_append_left _ (List.mem_append_right _ h)) (by decide +kernel))
set_option maxRecDepth 20000 in
theorem gL_law_L_lowest : GoodIn wsL_law (va_wsS RL 276 yL_lowest wsL_lowest) := goodIn_app (goodIn_c chL_law chL_law_in _ [(31, 20), (31, 21), (3, 4)] (by eq_refl) (by decide +kernel)) ggL_law_L_lowest
set_option maxRecDepth 20000 in
theorem ggL_law_X9_lowest : GoodIn wsL_law wsX9_lowest := goodIn_r _ [777, 66, 117, 118, 5, 119, 199, 200, 201, 202, 120, 121, 122, 123, 124, 778, 779, 780, 781, 782, 104, 783, 784, 785, 133, 786, 135, 1317, 1318, 1319, 1320, 1321, 1322, 1323, 1324, 1325] (by eq_refl) gw_wsX9_lowest
set_option maxRecDepth 20000 in
theorem gL_law_X9_lowest : GoodIn wsL_law (wsV RL 278 RX9 yX9_lowest wsX9_lowest) := goodIn_app (goodIn_c chL_law chL_law_in _ [(32, 6), (32, 7), (32, 8), (0, 5)] (by eq_refl) (by decide +kernel)) ggL_law_X9_lowest
set_option maxRecDepth 20000 in
theorem ggL_law_L_text : GoodIn wsL_law wsL_text := goodIn_ca (goodIn_r _ [789, 78, 790, 791, 792, 2, 793, 16, 85, 86, 87, 88, 89, 90, 91, 92, 794, 795, 100, 796, 797, 798, 799, 800, 801, 802, 803, 804, 805, 806, 807, 13, 14, 808, 809, 810, 811, 812, 813, 814, 815, 816, 817, 818, 819, 248, 99, 101, 102, 103, 104, 105, 106, 107, 108, 299, 156, 157, 820, 821, 822, 823, 824, 825, 826, 827, 828, 829, 830, 831, 832, 833, 834, 835, 836, 837, 838, 839, 840, 841, 842, 843, 844, 845, 846, 847, 848, 849, 850, 851, 852, 853, 854, 855, 856, 857, 858, 859, 860, 861, 862, 863, 864, 865, 866, 867, 868, 869, 870, 871, 872, 873, 874, 544, 545, 546, 875, 876, 877, 878, 879, 880, 881, 882, 883, 884, 885, 886, 887, 888, 889, 890, 891, 892, 893, 894, 895, 896, 897, 898, 899, 900, 901, 902, 903, 904, 905, 906, 907, 908, 909, 910, 911, 912, 913, 914, 915, 916, 917, 918, 919, 920, 921, 922, 923, 924, 925, 926, 927, 928, 929, 930, 931, 932, 933, 934, 935, 936, 937, 133, 938, 939, 940, 941, 942, 943, 944, 945, 946, 947, 948, 949, 950, 951, 952, 953, 954, 955, 956, 957, 958, 959, 960, 961, 962, 963, 964, 965, 966, 967, 968, 969, 970, 971, 972, 973, 974, 975, 976, 977, 978, 979, 980, 981, 982, 983, 984, 985, 986, 987, 988, 989, 990, 991, 992, 993, 994, 995, 996, 997, 998, 999, 1000, 1001, 1002, 1003, 1004, 1005, 1006, 1007, 1008, 1009, 1326, 1327, 1307, 1308, 1309, 1310, 1311, 1312, 1313, 1314, 1315, 1316, 1340, 1341, 1342, 1343, 1344, 1345, 1346, 1347] (by eq_refl) (by decide +kernel)) (goodIn_sub (fun _ h => List.mem_append_left _ (List.mem_append_right _ h)) (by decide +kernel))
set_option maxRecDepth 20000 in
theorem gL_law_L_text : GoodIn wsL_law (va_wsS RL 279 yL_text wsL_text) := goodIn_app (goodIn_c chL_law chL_law_in _ [(32, 19), (32, 20), (3, 4)] (by eq_refl) (by decide +kernel)) ggL_law_L_text
set_option maxRecDepth 20000 in
theorem ggL_law_X9_text : GoodIn wsL_law wsX9_text := goodIn_r _ [1013, 66, 117, 118, 5, 119, 199, 200, 201, 202, 120, 121, 122, 123, 124, 1014, 1015, 1016, 1017, 798, 799, 1018, 801, 802, 803, 804, 805, 806, 807, 13, 14, 808, 809, 810, 811, 812, 813, 814, 815, 816, 817, 818, 819, 1019, 821, 822, 823, 824, 825, 826, 827, 828, 829, 1020, 1021, 1022, 1023, 1024, 1025, 1026, 1027, 1028, 1029, 1030, 1031, 1032, 838, 839, 840, 841, 842, 843, 844, 845, 846, 847, 848, 849, 850, 851, 852, 853, 854, 855, 856, 857, 858, 859, 860, 861, 862, 863, 864, 865, 866, 867, 868, 869, 870, 871, 872, 873, 874, 544, 545, 546, 875, 876, 877, 878, 879, 1033, 1034, 1035, 913, 947, 948, 949, 898, 899, 900, 950, 951, 903, 952, 905, 953, 954, 908, 955, 910, 911, 912, 914, 915, 1036, 1037, 1038, 1039, 975, 1040, 1041, 1042, 1043, 976, 974, 1044, 1045, 1046, 1047, 1048, 1049, 1050, 1051, 1052, 1053, 1054, 884, 885, 886, 887, 888, 889, 890, 882, 891, 892, 893, 894, 895, 896, 897, 901, 902, 904, 906, 907, 909, 1055, 1056, 1057, 1058, 1059, 1060, 1061, 929, 930, 931, 932, 933, 934, 935, 936, 937, 133, 938, 939, 940, 941, 942, 943, 944, 945, 946, 956, 957, 958, 959, 960, 1062, 962, 963, 964, 965, 966, 967, 968, 969, 970, 971, 972, 973, 977, 978, 979, 980, 981, 982, 983, 984, 985, 986, 987, 988, 989, 990, 991, 992, 993, 994, 995, 996, 997, 998, 999, 1000, 1001, 1002, 1003, 1004, 1005, 1006, 1007, 1008, 1009, 1317, 1318, 1319, 1320, 1321, 1322, 1323, 1324, 1325, 1340, 1341, 1342, 1343, 1344, 1345, 1346, 1347] (by eq_refl) gw_wsX9_text
set_option maxRecDepth 20000 in
theorem gL_law_X9_text : GoodIn wsL_law (wsV RL 281 RX9 yX9_text wsX9_text) := goodIn_app (goodIn_c chL_law chL_law_in _ [(42, 2), (42, 3), (42, 4), (0, 5)] (by eq_refl) (by decide +kernel)) ggL_law_X9_text
set_option maxRecDepth 20000 in
theorem ggL_law_L_order : GoodIn wsL_law wsL_order := goodIn_ca (goodIn_r _ [1065, 78, 1066, 1067, 1068, 2, 1069, 16, 85, 86, 87, 88, 89, 90, 91, 92, 1326, 1327, 1307, 1308, 1309, 1310, 1311, 1312, 1313, 1314, 1315, 1316] (by eq_refl) (by decide +kernel)) (goodIn_sub (fun _ h => List.mem_append_left _ (List.mem_append_right _ h)) (by decide +kernel))
set_option maxRecDepth 20000 in
theorem gL_law_L_order : GoodIn wsL_law (va_wsS RL 282 yL_order wsL_order) := goodIn_app (goodIn_c chL_law chL_law_in _ [(44, 7), (44, 8), (3, 4)] (by eq_refl) (by decide +kernel)) ggL_law_L_order
set_option maxRecDepth 20000 in
theorem ggL_law_X9_order : GoodIn wsL_law wsX9_order := goodIn_r _ [1073, 66, 117, 118, 5, 119, 199, 200, 201, 202, 120, 121, 122, 123, 124, 1317, 1318, 1319, 1320, 1321, 1322, 1323, 1324, 1325] (by eq_refl) gw_wsX9_order
set_option maxRecDepth 20000 in
theorem gL_law_X9_order : GoodIn wsL_law (wsV RL 284 RX9 yX9_order wsX9_order) := goodIn_app (goodIn_c chL_law chL_law_in _ [(44, 14), (44, 15), (44, 16), (0, 5)] (by eq_refl) (by decide +kernel)) ggL_law_X9_order
set_option maxRecDepth 20000 in
theorem ggL_law_L_divides : GoodIn wsL_law wsL_divides := goodIn_ca (goodIn_r _ [1076, 78, 1077, 1078, 1079, 2, 1080, 16, 85, 86, 87, 88, 89, 90, 91, 92, 1081, 443, 100, 444, 369, 350, 351, 248, 99, 101, 102, 103, 104, 105, 106, 107, 108, 299, 156, 157, 1326, 1327, 1307, 1308, 1309, 1310, 1311, 1312, 1313, 1314, 1315, 1316] (by eq_refl) (by decide +kernel)) (goodIn_sub (fun _ h => List.mem_append_left _ (List.mem_append_right _ h)) (by decide +kernel))
set_option maxRecDepth 20000 in
theorem gL_law_L_divides : GoodIn wsL_law (va_wsS RL 285 yL_divides wsL_divides) := goodIn_app (goodIn_c chL_law chL_law_in _ [(44, 18), (44, 19), (3, 4)] (by eq_refl) (by decide +kernel)) ggL_law_L_divides
set_option maxRecDepth 20000 in
theorem ggL_law_X9_divides : GoodIn wsL_law wsX9_divides := goodIn_r _ [1085, 66, 117, 118, 5, 119, 199, 200, 201, 202, 120, 121, 122, 123, 124, 1086, 1087, 1088, 356, 357, 358, 339, 340, 341, 125, 126, 127, 128, 129, 104, 130, 131, 132, 133, 134, 135, 308, 309, 310, 1317, 1318, 1319, 1320, 1321, 1322, 1323, 1324, 1325] (by eq_refl) gw_wsX9_divides
set_option maxRecDepth 20000 in
theorem gL_law_X9_divides : GoodIn wsL_law (wsV RL 287 RX9 yX9_divides wsX9_divides) := goodIn_app (goodIn_c chL_law chL_law_in _ [(45, 2), (45, 3), (45, 4), (0, 5)] (by eq_refl) (by decide +kernel)) ggL_law_X9_divides
set_option maxRecDepth 20000 in
theorem ggL_law_L_check : GoodIn wsL_law wsL_check := goodIn_ca (goodIn_r _ [1091, 78, 1092, 1093, 1094, 2, 1095, 16, 85, 86, 87, 88, 89, 90, 91, 92, 98, 99, 100, 101, 102, 103, 104, 105, 106, 107, 108, 461, 462, 463, 464, 465, 466, 467, 248, 369, 350, 351, 299, 156, 157, 1326, 1327, 1307, 1308, 1309, 1310, 1311, 1312, 1313, 1314, 1315, 1316] (by eq_refl) (by decide +kernel)) (goodIn_sub (fun _ h => List.mem_append_left _ (List.mem_append_right _ h)) (by decide +kernel))
set_option maxRecDepth 20000 in
theorem gL_law_L_check : GoodIn wsL_law (va_wsS RL 288 yL_check wsL_check) := goodIn_app (goodIn_c chL_law chL_law_in _ [(45, 9), (45, 10), (3, 4)] (by eq_refl) (by decide +kernel)) ggL_law_L_check
set_option maxRecDepth 20000 in
theorem ggL_law_X9_check : GoodIn wsL_law wsX9_check := goodIn_r _ [1099, 66, 117, 118, 5, 119, 199, 200, 201, 202, 120, 121, 122, 123, 124, 472, 473, 474, 125, 126, 127, 128, 129, 104, 130, 131, 132, 133, 134, 135, 475, 476, 477, 356, 357, 358, 339, 340, 341, 308, 309, 310, 1317, 1318, 1319, 1320, 1321, 1322, 1323, 1324, 1325] (by eq_refl) gw_wsX9_check
set_option maxRecDepth 20000 in
theorem gL_law_X9_check : GoodIn wsL_law (wsV RL 290 RX9 yX9_check wsX9_check) := goodIn_app (goodIn_c chL_law chL_law_in _ [(45, 16), (45, 17), (45, 18), (0, 5)] (by eq_refl) (by decide +kernel)) ggL_law_X9_check
set_option maxRecDepth 20000 in
theorem ggL_law_L_isPrime : GoodIn wsL_law wsL_isPrime := goodIn_ca (goodIn_ca (goodIn_r _ [1102, 78, 79, 1103, 1104, 1105, 2, 1106, 16, 85, 86, 87, 88, 89, 90, 91, 92, 93, 94, 95, 96, 97, 98, 99, 100, 101, 102, 103, 104, 105, 106, 107, 108, 1107, 439, 432, 440, 437, 441, 442, 443, 444, 369, 350, 351, 248, 299, 156, 157, 1108, 1109, 1110, 1111, 517, 518, 519, 414, 319, 320, 1112, 1113, 1114, 1115, 367, 368, 1326, 1327, 1307, 1308, 1309, 1310, 1311, 1312, 1313, 1314, 1315, 1316] (by eq_refl) (by decide +kernel)) (goodIn_sub (fun _ h => List.mem_append_left _ (List.mem_append_right _ h)) (by decide +kernel))) (goodIn_sub (fun _ h => List.mem_append_right _ h) (by decide +kernel))
set_option maxRecDepth 20000 in
theorem gL_law_L_isPrime : GoodIn wsL_law (va_wsS RL 291 yL_isPrime wsL_isPrime) := goodIn_app (goodIn_c chL_law chL_law_in _ [(45, 20), (45, 21), (3, 4)] (by eq_refl) (by decide +kernel)) ggL_law_L_isPrime
set_option maxRecDepth 20000 in
theorem ggL_law_X9_isPrime : GoodIn wsL_law wsX9_isPrime := goodIn_r _ [1119, 66, 117, 118, 5, 119, 120, 121, 122, 123, 124, 125, 126, 127, 128, 129, 104, 130, 131, 132, 133, 134, 135, 451, 452, 453, 450, 356, 357, 358, 339, 340, 341, 308, 309, 310, 1317, 1318, 1319, 1320, 1321, 1322, 1323, 1324, 1325] (by eq_refl) gw_wsX9_isPrime
set_option maxRecDepth 20000 in
theorem gL_law_X9_isPrime : GoodIn wsL_law (wsV RL 293 RX9 yX9_isPrime wsX9_isPrime) := goodIn_app (goodIn_c chL_law chL_law_in _ [(46, 12), (46, 13), (46, 14), (0, 5)] (by eq_refl) (by decide +kernel)) ggL_law_X9_isPrime
set_option maxRecDepth 20000 in
theorem ggL_law_L_primes : GoodIn wsL_law wsL_primes := goodIn_ca (goodIn_r _ [1122, 79, 1123, 1124, 1125, 2, 1126, 93, 94, 95, 96, 97, 90, 91, 92, 1127, 1128, 432, 1129, 1130, 1131, 1132, 1112, 1113, 1114, 1133, 1134, 1135, 437, 438, 439, 440, 441, 99, 100, 101, 102, 103, 104, 105, 106, 107, 108, 442, 443, 444, 369, 350, 351, 248, 299, 156, 157, 1326, 1327] (by eq_refl) (by decide +kernel)) (goodIn_sub (fun _ h => List.mem_append_right _ h) (by decide +kernel))
set_option maxRecDepth 20000 in
theorem gL_law_L_primes : GoodIn wsL_law (va_wsS RL 294 yL_primes wsL_primes) := goodIn_app (goodIn_c chL_law chL_law_in _ [(46, 16), (46, 17), (3, 4)] (by eq_refl) (by decide +kernel)) ggL_law_L_primes
set_option maxRecDepth 20000 in
theorem ggL_law_X9_primes : GoodIn wsL_law wsX9_primes := goodIn_r _ [1139, 199, 200, 201, 5, 202, 120, 121, 122, 123, 124, 1140, 1141, 1142, 450, 451, 452, 453, 125, 126, 127, 128, 129, 104, 130, 131, 132, 133, 134, 135, 356, 357, 358, 339, 340, 341, 308, 309, 310, 1317, 1318, 1319, 1320, 1321, 1322, 1323, 1324, 1325] (by eq_refl) gw_wsX9_primes
set_option maxRecDepth 20000 in
theorem gL_law_X9_primes : GoodIn wsL_law (wsV RL 296 RX9 yX9_primes wsX9_primes) := goodIn_app (goodIn_c chL_law chL_law_in _ [(47, 8), (47, 9), (47, 10), (0, 5)] (by eq_refl) (by decide +kernel)) ggL_law_X9_primes
set_option maxRecDepth 20000 in
theorem ggL_law_L_prime : GoodIn wsL_law wsL_prime := goodIn_ca (goodIn_r _ [1145, 79, 1146, 1147, 1148, 2, 1149, 93, 94, 95, 96, 97, 90, 91, 92, 1150, 1151, 432, 1152, 438, 439, 440, 437, 441, 99, 100, 101, 102, 103, 104, 105, 106, 107, 108, 442, 443, 444, 369, 350, 351, 248, 299, 156, 157, 1326, 1327] (by eq_refl) (by decide +kernel)) (goodIn_sub (fun _ h => List.mem_append_right _ h) (by decide +kernel))
set_option maxRecDepth 20000 in
theorem gL_law_L_prime : GoodIn wsL_law (va_wsS RL 297 yL_prime wsL_prime) := goodIn_app (goodIn_c chL_law chL_law_in _ [(47, 15), (47, 16), (3, 4)] (by eq_refl) (by decide +kernel)) ggL_law_L_prime
set_option maxRecDepth 20000 in
theorem ggL_law_X9_prime : GoodIn wsL_law wsX9_prime := goodIn_r _ [1156, 450, 199, 200, 201, 5, 202, 120, 121, 122, 123, 124, 451, 452, 453, 125, 126, 127, 128, 129, 104, 130, 131, 132, 133, 134, 135, 356, 357, 358, 339, 340, 341, 308, 309, 310, 1317, 1318, 1319, 1320, 1321, 1322, 1323, 1324, 1325] (by eq_refl) gw_wsX9_prime
set_option maxRecDepth 20000 in
theorem gL_law_X9_prime : GoodIn wsL_law (wsV RL 299 RX9 yX9_prime wsX9_prime) := goodIn_app (goodIn_c chL_law chL_law_in _ [(48, 1), (48, 2), (48, 3), (0, 5)] (by eq_refl) (by decide +kernel)) ggL_law_X9_prime
set_option maxRecDepth 20000 in
theorem ggL_law_L_period : GoodIn wsL_law wsL_period := goodIn_ca (goodIn_ca (goodIn_r _ [1159, 78, 79, 1160, 1161, 1162, 2, 1163, 16, 85, 86, 87, 88, 89, 90, 91, 92, 93, 94, 95, 96, 97, 665, 666, 667, 668, 669, 99, 100, 101, 102, 103, 104, 105, 106, 107, 108, 670, 156, 157, 1164, 1165, 1166, 1167, 350, 351, 248, 299, 1168, 1169, 1170, 1171, 676, 23, 677, 678, 1172, 1173, 1174, 697, 698, 699, 700, 174, 175, 1175, 1176, 1177, 1178, 32, 33, 496, 497, 498, 31, 499, 500, 501, 502, 503, 19, 504, 44, 505, 506, 443, 444, 369, 507, 508, 509, 510, 42, 511, 333, 334, 1179, 1180, 1181, 1182, 854, 855, 856, 1183, 526, 527, 528, 1184, 1185, 1186, 1187, 1188, 1189, 1190, 1326, 1327, 1307, 1308, 1309, 1310, 1311, 1312, 1313, 1314, 1315, 1316, 1328, 1329, 1330] (by eq_refl) (by decide +kernel)) (goodIn_sub (fun _ h => List.mem_append_left _ (List.mem_append_right _ h)) (by decide +kernel))) (goodIn_sub (fun _ h => List.mem_append_right _ h) (by decide +kernel))
set_option maxRecDepth 20000 in
theorem gL_law_L_period : GoodIn wsL_law (va_wsS RL 300 yL_period wsL_period) := goodIn_app (goodIn_c chL_law chL_law_in _ [(48, 5), (48, 6), (3, 4)] (by eq_refl) (by decide +kernel)) ggL_law_L_period
set_option maxRecDepth 20000 in
theorem ggL_law_X9_period : GoodIn wsL_law wsX9_period := goodIn_r _ [1194, 66, 117, 118, 5, 119, 120, 121, 122, 123, 124, 683, 684, 685, 125, 126, 127, 128, 129, 104, 130, 131, 132, 133, 134, 135, 1195, 1196, 1197, 450, 356, 357, 358, 339, 340, 341, 308, 309, 310, 1317, 1318, 1319, 1320, 1321, 1322, 1323, 1324, 1325] (by eq_refl) gw_wsX9_period
set_option maxRecDepth 20000 in
theorem gL_law_X9_period : GoodIn wsL_law (wsV RL 302 RX9 yX9_period wsX9_period) := goodIn_app (goodIn_c chL_law chL_law_in _ [(49, 15), (49, 16), (49, 17), (0, 5)] (by eq_refl) (by decide +kernel)) ggL_law_X9_period
