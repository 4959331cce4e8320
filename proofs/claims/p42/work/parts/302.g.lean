set_option maxRecDepth 20000 in
theorem ggL_law_X9_step : GoodIn wsL_law wsX9_step := goodIn_r _ [700, 70, 195, 196, 197, 5, 198, 120, 121, 122, 123, 124, 701, 702, 703, 704, 69, 125, 126, 127, 128, 129, 104, 130, 131, 132, 133, 134, 135, 176, 177, 178, 179, 103, 105, 106, 107, 108, 136, 137, 138, 139, 140, 1317, 1318, 1319, 1320, 1321, 1322, 1323, 1324, 1325] (by decide +kernel) (by decide +kernel)
set_option maxRecDepth 20000 in
theorem gL_law_X9_step : GoodIn wsL_law (wsV RL 257 RX9 yX9_step wsX9_step) := goodIn_app (goodIn_of _ (by decide +kernel)) ggL_law_X9_step
set_option maxRecDepth 20000 in
theorem ggL_law_L_load : GoodIn wsL_law wsL_load := goodIn_ca (goodIn_r _ [707, 79, 708, 709, 710, 2, 711, 24, 93, 94, 95, 96, 97, 90, 91, 92, 98, 99, 100, 101, 102, 103, 104, 105, 106, 107, 108, 221, 222, 223, 224, 36, 169, 170, 171, 109, 110, 111, 112, 35, 1326, 1327, 1307, 1308, 1309, 1310, 1311, 1312, 1313, 1314, 1315, 1316, 1331, 1332] (by decide +kernel) (by decide +kernel)) (goodIn_sub (fun _ h => List.mem_append_right _ h) (by decide +kernel))
set_option maxRecDepth 20000 in
theorem gL_law_L_load : GoodIn wsL_law (va_wsS RL 258 yL_load wsL_load) := goodIn_app (goodIn_of _ (by decide +kernel)) ggL_law_L_load
set_option maxRecDepth 20000 in
theorem ggL_law_X9_load : GoodIn wsL_law wsX9_load := goodIn_r _ [715, 69, 70, 195, 196, 197, 5, 198, 120, 121, 122, 123, 124, 125, 126, 127, 128, 129, 104, 130, 131, 132, 133, 134, 135, 229, 230, 231, 232, 233, 176, 177, 178, 179, 103, 105, 106, 107, 108, 136, 137, 138, 139, 140, 1317, 1318, 1319, 1320, 1321, 1322, 1323, 1324, 1325] (by decide +kernel) (by decide +kernel)
set_option maxRecDepth 20000 in
theorem gL_law_X9_load : GoodIn wsL_law (wsV RL 260 RX9 yX9_load wsX9_load) := goodIn_app (goodIn_of _ (by decide +kernel)) ggL_law_X9_load
set_option maxRecDepth 20000 in
theorem ggL_law_L_degree : GoodIn wsL_law wsL_degree := goodIn_ca (goodIn_r _ [718, 78, 719, 720, 721, 2, 722, 16, 85, 86, 87, 88, 89, 90, 91, 92, 98, 99, 100, 101, 102, 103, 104, 105, 106, 107, 108, 1326, 1327, 1307, 1308, 1309, 1310, 1311, 1312, 1313, 1314, 1315, 1316] (by decide +kernel) (by decide +kernel)) (goodIn_sub (fun _ h => List.mem_append_left _ (List.mem_append_right _ h)) (by decide +kernel))
set_option maxRecDepth 20000 in
theorem gL_law_L_degree : GoodIn wsL_law (va_wsS RL 261 yL_degree wsL_degree) := goodIn_app (goodIn_of _ (by decide +kernel)) ggL_law_L_degree
set_option maxRecDepth 20000 in
theorem ggL_law_X9_degree : GoodIn wsL_law wsX9_degree := goodIn_r _ [726, 66, 117, 118, 5, 119, 195, 196, 197, 198, 120, 121, 122, 123, 124, 125, 126, 127, 128, 129, 104, 130, 131, 132, 133, 134, 135, 1317, 1318, 1319, 1320, 1321, 1322, 1323, 1324, 1325] (by decide +kernel) (by decide +kernel)
set_option maxRecDepth 20000 in
theorem gL_law_X9_degree : GoodIn wsL_law (wsV RL 263 RX9 yX9_degree wsX9_degree) := goodIn_app (goodIn_of _ (by decide +kernel)) ggL_law_X9_degree
set_option maxRecDepth 20000 in
theorem ggL_law_L_code : GoodIn wsL_law wsL_code := goodIn_ca (goodIn_r _ [729, 78, 730, 731, 732, 2, 733, 16, 85, 86, 87, 88, 89, 90, 91, 92, 98, 99, 100, 101, 102, 103, 104, 105, 106, 107, 108, 1326, 1327, 1307, 1308, 1309, 1310, 1311, 1312, 1313, 1314, 1315, 1316] (by decide +kernel) (by decide +kernel)) (goodIn_sub (fun _ h => List.mem_append_left _ (List.mem_append_right _ h)) (by decide +kernel))
set_option maxRecDepth 20000 in
theorem gL_law_L_code : GoodIn wsL_law (va_wsS RL 264 yL_code wsL_code) := goodIn_app (goodIn_of _ (by decide +kernel)) ggL_law_L_code
set_option maxRecDepth 20000 in
theorem ggL_law_X9_code : GoodIn wsL_law wsX9_code := goodIn_r _ [737, 66, 117, 118, 5, 119, 195, 196, 197, 198, 120, 121, 122, 123, 124, 125, 126, 127, 128, 129, 104, 130, 131, 132, 133, 134, 135, 1317, 1318, 1319, 1320, 1321, 1322, 1323, 1324, 1325] (by decide +kernel) (by decide +kernel)
set_option maxRecDepth 20000 in
theorem gL_law_X9_code : GoodIn wsL_law (wsV RL 266 RX9 yX9_code wsX9_code) := goodIn_app (goodIn_of _ (by decide +kernel)) ggL_law_X9_code
set_option maxRecDepth 20000 in
theorem ggL_law_L_has : GoodIn wsL_law wsL_has := goodIn_ca (goodIn_r _ [740, 78, 741, 742, 743, 2, 744, 16, 85, 86, 87, 88, 89, 90, 91, 92, 148, 149, 150, 151, 152, 100, 153, 1326, 1327, 1307, 1308, 1309, 1310, 1311, 1312, 1313, 1314, 1315, 1316] (by decide +kernel) (by decide +kernel)) (goodIn_sub (fun _ h => List.mem_append_left _ (List.mem_append_right _ h)) (by decide +kernel))
set_option maxRecDepth 20000 in
theorem gL_law_L_has : GoodIn wsL_law (va_wsS RL 267 yL_has wsL_has) := goodIn_app (goodIn_of _ (by decide +kernel)) ggL_law_L_has
set_option maxRecDepth 20000 in
theorem ggL_law_X9_has : GoodIn wsL_law wsX9_has := goodIn_r _ [748, 66, 117, 118, 5, 119, 159, 160, 161, 195, 196, 197, 198, 120, 121, 122, 123, 124, 1317, 1318, 1319, 1320, 1321, 1322, 1323, 1324, 1325] (by decide +kernel) (by decide +kernel)
set_option maxRecDepth 20000 in
theorem gL_law_X9_has : GoodIn wsL_law (wsV RL 269 RX9 yX9_has wsX9_has) := goodIn_app (goodIn_of _ (by decide +kernel)) ggL_law_X9_has
set_option maxRecDepth 20000 in
theorem ggL_law_L_ones : GoodIn wsL_law wsL_ones := goodIn_ca (goodIn_r _ [751, 78, 752, 753, 754, 2, 755, 16, 85, 86, 87, 88, 89, 90, 91, 92, 169, 170, 100, 171, 102, 103, 104, 105, 106, 107, 108, 1326, 1327, 1307, 1308, 1309, 1310, 1311, 1312, 1313, 1314, 1315, 1316] (by decide +kernel) (by decide +kernel)) (goodIn_sub (fun _ h => List.mem_append_left _ (List.mem_append_right _ h)) (by decide +kernel))
set_option maxRecDepth 20000 in
theorem gL_law_L_ones : GoodIn wsL_law (va_wsS RL 270 yL_ones wsL_ones) := goodIn_app (goodIn_of _ (by decide +kernel)) ggL_law_L_ones
set_option maxRecDepth 20000 in
theorem ggL_law_X9_ones : GoodIn wsL_law wsX9_ones := goodIn_r _ [759, 66, 117, 118, 5, 119, 195, 196, 197, 198, 120, 121, 122, 123, 124, 176, 177, 178, 179, 103, 104, 105, 106, 107, 108, 1317, 1318, 1319, 1320, 1321, 1322, 1323, 1324, 1325] (by decide +kernel) (by decide +kernel)
set_option maxRecDepth 20000 in
theorem gL_law_X9_ones : GoodIn wsL_law (wsV RL 272 RX9 yX9_ones wsX9_ones) := goodIn_app (goodIn_of _ (by decide +kernel)) ggL_law_X9_ones
set_option maxRecDepth 20000 in
theorem ggL_law_L_lowest : GoodIn wsL_law wsL_lowest := goodIn_ca (goodIn_r _ [762, 78, 763, 764, 765, 2, 766, 16, 85, 86, 87, 88, 89, 90, 91, 92, 767, 768, 100, 769, 244, 99, 101, 102, 103, 104, 105, 106, 107, 108, 1326, 1327, 1307, 1308, 1309, 1310, 1311, 1312, 1313, 1314, 1315, 1316] (by decide +kernel) (by decide +kernel)) (goodIn_sub (fun _ h => List.mem_append_left _ (List.mem_append_right _ h)) (by decide +kernel))
set_option maxRecDepth 20000 in
theorem gL_law_L_lowest : GoodIn wsL_law (va_wsS RL 273 yL_lowest wsL_lowest) := goodIn_app (goodIn_of _ (by decide +kernel)) ggL_law_L_lowest
set_option maxRecDepth 20000 in
theorem ggL_law_X9_lowest : GoodIn wsL_law wsX9_lowest := goodIn_r _ [773, 66, 117, 118, 5, 119, 195, 196, 197, 198, 120, 121, 122, 123, 124, 774, 775, 776, 777, 778, 104, 779, 780, 781, 133, 782, 135, 1317, 1318, 1319, 1320, 1321, 1322, 1323, 1324, 1325] (by decide +kernel) (by decide +kernel)
set_option maxRecDepth 20000 in
theorem gL_law_X9_lowest : GoodIn wsL_law (wsV RL 275 RX9 yX9_lowest wsX9_lowest) := goodIn_app (goodIn_of _ (by decide +kernel)) ggL_law_X9_lowest
set_option maxRecDepth 20000 in
theorem ggL_law_L_text : GoodIn wsL_law wsL_text := goodIn_ca (goodIn_r _ [785, 78, 786, 787, 788, 2, 789, 16, 85, 86, 87, 88, 89, 90, 91, 92, 790, 791, 100, 792, 793, 794, 795, 796, 797, 798, 799, 800, 801, 802, 803, 13, 14, 804, 805, 806, 807, 808, 809, 810, 811, 812, 813, 814, 815, 244, 99, 101, 102, 103, 104, 105, 106, 107, 108, 295, 152, 153, 816, 817, 818, 819, 820, 821, 822, 823, 824, 825, 826, 827, 828, 829, 830, 831, 832, 833, 834, 835, 836, 837, 838, 839, 840, 841, 842, 843, 844, 845, 846, 847, 848, 849, 850, 851, 852, 853, 854, 855, 856, 857, 858, 859, 860, 861, 862, 863, 864, 865, 866, 867, 868, 869, 870, 540, 541, 542, 871, 872, 873, 874, 875, 876, 877, 878, 879, 880, 881, 882, 883, 884, 885, 886, 887, 888, 889, 890, 891, 892, 893, 894, 895, 896, 897, 898, 899, 900, 901, 902, 903, 904, 905, 906, 907, 908, 909, 910, 911, 912, 913, 914, 915, 916, 917, 918, 919, 920, 921, 922, 923, 924, 925, 926, 927, 928, 929, 930, 931, 932, 933, 133, 934, 935, 936, 937, 938, 939, 940, 941, 942, 943, 944, 945, 946, 947, 948, 949, 950, 951, 952, 953, 954, 955, 956, 957, 958, 959, 960, 961, 962, 963, 964, 965, 966, 967, 968, 969, 970, 971, 972, 973, 974, 975, 976, 977, 978, 979, 980, 981, 982, 983, 984, 985, 986, 987, 988, 989, 990, 991, 992, 993, 994, 995, 996, 997, 998, 999, 1000, 1001, 1002, 1003, 1004, 1005, 1326, 1327, 1307, 1308, 1309, 1310, 1311, 1312, 1313, 1314, 1315, 1316, 1340, 1341, 1342, 1343, 1344, 1345, 1346, 1347] (by decide +kernel) (by decide +kernel)) (goodIn_sub (fun _ h => List.mem_append_left _ (List.mem_append_right _ h)) (by decide +kernel))
set_option maxRecDepth 20000 in
theorem gL_law_L_text : GoodIn wsL_law (va_wsS RL 276 yL_text wsL_text) := goodIn_app (goodIn_of _ (by decide +kernel)) ggL_law_L_text
set_option maxRecDepth 20000 in
theorem ggL_law_X9_text : GoodIn wsL_law wsX9_text := goodIn_r _ [1009, 66, 117, 118, 5, 119, 195, 196, 197, 198, 120, 121, 122, 123, 124, 1010, 1011, 1012, 1013, 794, 795, 1014, 797, 798, 799, 800, 801, 802, 803, 13, 14, 804, 805, 806, 807, 808, 809, 810, 811, 812, 813, 814, 815, 1015, 817, 818, 819, 820, 821, 822, 823, 824, 825, 1016, 1017, 1018, 1019, 1020, 1021, 1022, 1023, 1024, 1025, 1026, 1027, 1028, 834, 835, 836, 837, 838, 839, 840, 841, 842, 843, 844, 845, 846, 847, 848, 849, 850, 851, 852, 853, 854, 855, 856, 857, 858, 859, 860, 861, 862, 863, 864, 865, 866, 867, 868, 869, 870, 540, 541, 542, 871, 872, 873, 874, 875, 1029, 1030, 1031, 909, 943, 944, 945, 894, 895, 896, 946, 947, 899, 948, 901, 949, 950, 904, 951, 906, 907, 908, 910, 911, 1032, 1033, 1034, 1035, 971, 1036, 1037, 1038, 1039, 972, 970, 1040, 1041, 1042, 1043, 1044, 1045, 1046, 1047, 1048, 1049, 1050, 880, 881, 882, 883, 884, 885, 886, 878, 887, 888, 889, 890, 891, 892, 893, 897, 898, 900, 902, 903, 905, 1051, 1052, 1053, 1054, 1055, 1056, 1057, 925, 926, 927, 928, 929, 930, 931, 932, 933, 133, 934, 935, 936, 937, 938, 939, 940, 941, 942, 952, 953, 954, 955, 956, 1058, 958, 959, 960, 961, 962, 963, 964, 965, 966, 967, 968, 969, 973, 974, 975, 976, 977, 978, 979, 980, 981, 982, 983, 984, 985, 986, 987, 988, 989, 990, 991, 992, 993, 994, 995, 996, 997, 998, 999, 1000, 1001, 1002, 1003, 1004, 1005, 1317, 1318, 1319, 1320, 1321, 1322, 1323, 1324, 1325, 1340, 1341, 1342, 1343, 1344, 1345, 1346, 1347] (by decide +kernel) (by decide +kernel)
set_option maxRecDepth 20000 in
theorem gL_law_X9_text : GoodIn wsL_law (wsV RL 278 RX9 yX9_text wsX9_text) := goodIn_app (goodIn_of _ (by decide +kernel)) ggL_law_X9_text
set_option maxRecDepth 20000 in
theorem ggL_law_L_order : GoodIn wsL_law wsL_order := goodIn_ca (goodIn_r _ [1061, 78, 1062, 1063, 1064, 2, 1065, 16, 85, 86, 87, 88, 89, 90, 91, 92, 1326, 1327, 1307, 1308, 1309, 1310, 1311, 1312, 1313, 1314, 1315, 1316] (by decide +kernel) (by decide +kernel)) (goodIn_sub (fun _ h => List.mem_append_left _ (List.mem_append_right _ h)) (by decide +kernel))
set_option maxRecDepth 20000 in
theorem gL_law_L_order : GoodIn wsL_law (va_wsS RL 279 yL_order wsL_order) := goodIn_app (goodIn_of _ (by decide +kernel)) ggL_law_L_order
set_option maxRecDepth 20000 in
theorem ggL_law_X9_order : GoodIn wsL_law wsX9_order := goodIn_r _ [1069, 66, 117, 118, 5, 119, 195, 196, 197, 198, 120, 121, 122, 123, 124, 1317, 1318, 1319, 1320, 1321, 1322, 1323, 1324, 1325] (by decide +kernel) (by decide +kernel)
set_option maxRecDepth 20000 in
theorem gL_law_X9_order : GoodIn wsL_law (wsV RL 281 RX9 yX9_order wsX9_order) := goodIn_app (goodIn_of _ (by decide +kernel)) ggL_law_X9_order
set_option maxRecDepth 20000 in
theorem ggL_law_L_divides : GoodIn wsL_law wsL_divides := goodIn_ca (goodIn_r _ [1072, 78, 1073, 1074, 1075, 2, 1076, 16, 85, 86, 87, 88, 89, 90, 91, 92, 1077, 439, 100, 440, 365, 346, 347, 244, 99, 101, 102, 103, 104, 105, 106, 107, 108, 295, 152, 153, 1326, 1327, 1307, 1308, 1309, 1310, 1311, 1312, 1313, 1314, 1315, 1316] (by decide +kernel) (by decide +kernel)) (goodIn_sub (fun _ h => List.mem_append_left _ (List.mem_append_right _ h)) (by decide +kernel))
set_option maxRecDepth 20000 in
theorem gL_law_L_divides : GoodIn wsL_law (va_wsS RL 282 yL_divides wsL_divides) := goodIn_app (goodIn_of _ (by decide +kernel)) ggL_law_L_divides
set_option maxRecDepth 20000 in
theorem ggL_law_X9_divides : GoodIn wsL_law wsX9_divides := goodIn_r _ [1081, 66, 117, 118, 5, 119, 195, 196, 197, 198, 120, 121, 122, 123, 124, 1082, 1083, 1084, 352, 353, 354, 335, 336, 337, 125, 126, 127, 128, 129, 104, 130, 131, 132, 133, 134, 135, 304, 305, 306, 1317, 1318, 1319, 1320, 1321, 1322, 1323, 1324, 1325] (by decide +kernel) (by decide +kernel)
set_option maxRecDepth 20000 in
theorem gL_law_X9_divides : GoodIn wsL_law (wsV RL 284 RX9 yX9_divides wsX9_divides) := goodIn_app (goodIn_of _ (by decide +kernel)) ggL_law_X9_divides
set_option maxRecDepth 20000 in
theorem ggL_law_L_check : GoodIn wsL_law wsL_check := goodIn_ca (goodIn_r _ [1087, 78, 1088, 1089, 1090, 2, 1091, 16, 85, 86, 87, 88, 89, 90, 91, 92, 98, 99, 100, 101, 102, 103, 104, 105, 106, 107, 108, 457, 458, 459, 460, 461, 462, 463, 244, 365, 346, 347, 295, 152, 153, 1326, 1327, 1307, 1308, 1309, 1310, 1311, 1312, 1313, 1314, 1315, 1316] (by decide +kernel) (by decide +kernel)) (goodIn_sub (fun _ h => List.mem_append_left _ (List.mem_append_right _ h)) (by decide +kernel))
set_option maxRecDepth 20000 in
theorem gL_law_L_check : GoodIn wsL_law (va_wsS RL 285 yL_check wsL_check) := goodIn_app (goodIn_of _ (by decide +kernel)) ggL_law_L_check
set_option maxRecDepth 20000 in
theorem ggL_law_X9_check : GoodIn wsL_law wsX9_check := goodIn_r _ [1095, 66, 117, 118, 5, 119, 195, 196, 197, 198, 120, 121, 122, 123, 124, 468, 469, 470, 125, 126, 127, 128, 129, 104, 130, 131, 132, 133, 134, 135, 471, 472, 473, 352, 353, 354, 335, 336, 337, 304, 305, 306, 1317, 1318, 1319, 1320, 1321, 1322, 1323, 1324, 1325] (by decide +kernel) (by decide +kernel)
set_option maxRecDepth 20000 in
theorem gL_law_X9_check : GoodIn wsL_law (wsV RL 287 RX9 yX9_check wsX9_check) := goodIn_app (goodIn_of _ (by decide +kernel)) ggL_law_X9_check
set_option maxRecDepth 20000 in
theorem ggL_law_L_isPrime : GoodIn wsL_law wsL_isPrime := goodIn_ca (goodIn_ca (goodIn_r _ [1098, 78, 79, 1099, 1100, 1101, 2, 1102, 16, 85, 86, 87, 88, 89, 90, 91, 92, 93, 94, 95, 96, 97, 98, 99, 100, 101, 102, 103, 104, 105, 106, 107, 108, 1103, 435, 428, 436, 433, 437, 438, 439, 440, 365, 346, 347, 244, 295, 152, 153, 1104, 1105, 1106, 1107, 513, 514, 515, 410, 315, 316, 1108, 1109, 1110, 1111, 363, 364, 1326, 1327, 1307, 1308, 1309, 1310, 1311, 1312, 1313, 1314, 1315, 1316] (by decide +kernel) (by decide +kernel)) (goodIn_sub (fun _ h => List.mem_append_left _ (List.mem_append_right _ h)) (by decide +kernel))) (goodIn_sub (fun _ h => List.mem_append_right _ h) (by decide +kernel))
set_option maxRecDepth 20000 in
theorem gL_law_L_isPrime : GoodIn wsL_law (va_wsS RL 288 yL_isPrime wsL_isPrime) := goodIn_app (goodIn_of _ (by decide +kernel)) ggL_law_L_isPrime
set_option maxRecDepth 20000 in
theorem ggL_law_X9_isPrime : GoodIn wsL_law wsX9_isPrime := goodIn_r _ [1115, 66, 117, 118, 5, 119, 120, 121, 122, 123, 124, 125, 126, 127, 128, 129, 104, 130, 131, 132, 133, 134, 135, 447, 448, 449, 446, 352, 353, 354, 335, 336, 337, 304, 305, 306, 1317, 1318, 1319, 1320, 1321, 1322, 1323, 1324, 1325] (by decide +kernel) (by decide +kernel)
set_option maxRecDepth 20000 in
theorem gL_law_X9_isPrime : GoodIn wsL_law (wsV RL 290 RX9 yX9_isPrime wsX9_isPrime) := goodIn_app (goodIn_of _ (by decide +kernel)) ggL_law_X9_isPrime
set_option maxRecDepth 20000 in
theorem ggL_law_L_primes : GoodIn wsL_law wsL_primes := goodIn_ca (goodIn_r _ [1118, 79, 1119, 1120, 1121, 2, 1122, 93, 94, 95, 96, 97, 90, 91, 92, 1123, 1124, 428, 1125, 1126, 1127, 1128, 1108, 1109, 1110, 1129, 1130, 1131, 433, 434, 435, 436, 437, 99, 100, 101, 102, 103, 104, 105, 106, 107, 108, 438, 439, 440, 365, 346, 347, 244, 295, 152, 153, 1326, 1327] (by decide +kernel) (by decide +kernel)) (goodIn_sub (fun _ h => List.mem_append_right _ h) (by decide +kernel))
set_option maxRecDepth 20000 in
theorem gL_law_L_primes : GoodIn wsL_law (va_wsS RL 291 yL_primes wsL_primes) := goodIn_app (goodIn_of _ (by decide +kernel)) ggL_law_L_primes
set_option maxRecDepth 20000 in
theorem ggL_law_X9_primes : GoodIn wsL_law wsX9_primes := goodIn_r _ [1135, 195, 196, 197, 5, 198, 120, 121, 122, 123, 124, 1136, 1137, 1138, 446, 447, 448, 449, 125, 126, 127, 128, 129, 104, 130, 131, 132, 133, 134, 135, 352, 353, 354, 335, 336, 337, 304, 305, 306, 1317, 1318, 1319, 1320, 1321, 1322, 1323, 1324, 1325] (by decide +kernel) (by decide +kernel)
set_option maxRecDepth 20000 in
theorem gL_law_X9_primes : GoodIn wsL_law (wsV RL 293 RX9 yX9_primes wsX9_primes) := goodIn_app (goodIn_of _ (by decide +kernel)) ggL_law_X9_primes
set_option maxRecDepth 20000 in
theorem ggL_law_X9_thrown : GoodIn wsL_law wsX9_thrown := goodIn_r _ [1142, 124, 1317, 1318, 1319, 1320, 1321, 1322, 1323, 1324, 1325] (by decide +kernel) (by decide +kernel)
set_option maxRecDepth 20000 in
theorem gL_law_X9_thrown : GoodIn wsL_law (wsV RL 294 RX9 yX9_thrown wsX9_thrown) := goodIn_app (goodIn_of _ (by decide +kernel)) ggL_law_X9_thrown
set_option maxRecDepth 20000 in
theorem ggL_law_L_prime : GoodIn wsL_law wsL_prime := goodIn_ca (goodIn_r _ [1145, 79, 1146, 1147, 1148, 2, 1149, 93, 94, 95, 96, 97, 90, 91, 92, 1150, 1151, 428, 1152, 434, 435, 436, 433, 437, 99, 100, 101, 102, 103, 104, 105, 106, 107, 108, 438, 439, 440, 365, 346, 347, 244, 295, 152, 153, 1326, 1327] (by decide +kernel) (by decide +kernel)) (goodIn_sub (fun _ h => List.mem_append_right _ h) (by decide +kernel))
set_option maxRecDepth 20000 in
theorem gL_law_L_prime : GoodIn wsL_law (va_wsS RL 297 yL_prime wsL_prime) := goodIn_app (goodIn_of _ (by decide +kernel)) ggL_law_L_prime
set_option maxRecDepth 20000 in
theorem ggL_law_X9_prime : GoodIn wsL_law wsX9_prime := goodIn_r _ [1156, 446, 195, 196, 197, 5, 198, 120, 121, 122, 123, 124, 447, 448, 449, 125, 126, 127, 128, 129, 104, 130, 131, 132, 133, 134, 135, 352, 353, 354, 335, 336, 337, 304, 305, 306, 1317, 1318, 1319, 1320, 1321, 1322, 1323, 1324, 1325] (by decide +kernel) (by decide +kernel)
set_option maxRecDepth 20000 in
theorem gL_law_X9_prime : GoodIn wsL_law (wsV RL 299 RX9 yX9_prime wsX9_prime) := goodIn_app (goodIn_of _ (by decide +kernel)) ggL_law_X9_prime
set_option maxRecDepth 20000 in
theorem ggL_law_L_period : GoodIn wsL_law wsL_period := goodIn_ca (goodIn_ca (goodIn_r _ [1159, 78, 79, 1160, 1161, 1162, 2, 1163, 16, 85, 86, 87, 88, 89, 90, 91, 92, 93, 94, 95, 96, 97, 661, 662, 663, 664, 665, 99, 100, 101, 102, 103, 104, 105, 106, 107, 108, 666, 152, 153, 1164, 1165, 1166, 1167, 346, 347, 244, 295, 1168, 1169, 1170, 1171, 672, 23, 673, 674, 1172, 1173, 1174, 693, 694, 695, 696, 170, 171, 1175, 1176, 1177, 1178, 32, 33, 492, 493, 494, 31, 495, 496, 497, 498, 499, 19, 500, 44, 501, 502, 439, 440, 365, 503, 504, 505, 506, 42, 507, 329, 330, 1179, 1180, 1181, 1182, 850, 851, 852, 1183, 522, 523, 524, 1184, 1185, 1186, 1187, 1188, 1189, 1190, 1326, 1327, 1307, 1308, 1309, 1310, 1311, 1312, 1313, 1314, 1315, 1316, 1328, 1329, 1330] (by decide +kernel) (by decide +kernel)) (goodIn_sub (fun _ h => List.mem_append_left _ (List.mem_append_right _ h)) (by decide +kernel))) (goodIn_sub (fun _ h => List.mem_append_right _ h) (by decide +kernel))
set_option maxRecDepth 20000 in
theorem gL_law_L_period : GoodIn wsL_law (va_wsS RL 300 yL_period wsL_period) := goodIn_app (goodIn_of _ (by decide +kernel)) ggL_law_L_period
set_option maxRecDepth 20000 in
theorem ggL_law_X9_period : GoodIn wsL_law wsX9_period := goodIn_r _ [1194, 66, 117, 118, 5, 119, 120, 121, 122, 123, 124, 679, 680, 681, 125, 126, 127, 128, 129, 104, 130, 131, 132, 133, 134, 135, 1195, 1196, 1197, 446, 352, 353, 354, 335, 336, 337, 304, 305, 306, 1317, 1318, 1319, 1320, 1321, 1322, 1323, 1324, 1325] (by decide +kernel) (by decide +kernel)
set_option maxRecDepth 20000 in
theorem gL_law_X9_period : GoodIn wsL_law (wsV RL 302 RX9 yX9_period wsX9_period) := goodIn_app (goodIn_of _ (by decide +kernel)) ggL_law_X9_period
