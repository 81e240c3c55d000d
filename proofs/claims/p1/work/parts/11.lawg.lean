set_option maxRecDepth 20000 in
theorem ggL_law_X11_init : GoodIn wsL_law wsX11_init := goodIn_r _ [8, 9, 10, 11, 12, 13, 14, 15, 16, 17, 18, 19, 20, 21, 22, 23, 24, 25, 26, 27, 28, 29, 30, 31, 32, 33, 34, 35, 36, 37, 38, 39, 40, 41, 42, 43, 44, 45, 46, 47, 48, 49, 50, 51, 52, 53, 54, 55, 56, 57, 58, 59, 60, 61, 62, 63, 64, 65, 66, 67, 68, 69, 70, 71, 72, 73, 74, 75, 76, 77, 78, 79, 80, 81, 82, 83, 84, 85, 86, 87, 88, 89, 1008, 1009, 952, 953, 954, 955, 956, 957, 958, 1010, 1011, 1012, 1013, 1014, 1015, 1016, 1017, 1018, 1019, 1020, 1021, 1022, 1023, 1024, 1025, 1026, 1027, 1028, 1029] (by decide +kernel) (by decide +kernel)
set_option maxRecDepth 20000 in
theorem gL_law_X11_init : GoodIn wsL_law (wsX11_init) := ggL_law_X11_init
set_option maxRecDepth 20000 in
theorem ggL_law_X12_init : GoodIn wsL_law wsX12_init := goodIn_r _ [92, 93, 10, 11, 37, 94, 95, 73, 96, 97, 98, 99, 49, 100, 101, 102, 103, 104, 105, 106, 107, 108, 109, 110, 111, 112, 113, 114, 115, 116, 117, 118, 119, 120, 121, 122, 123, 124, 125, 126, 127, 128, 129, 130, 959, 960, 961, 962, 963, 964, 965, 966, 967, 968, 969, 970, 971, 972, 973, 974, 975, 976, 977, 978, 979, 980, 981, 982, 983, 984, 985, 986, 987, 988, 989, 990, 991, 992, 993, 994, 995, 996, 997, 998, 999, 1000, 1001, 1002, 1003, 1004, 1005, 1006, 1007] (by decide +kernel) (by decide +kernel)
set_option maxRecDepth 20000 in
theorem gL_law_X12_init : GoodIn wsL_law (wsX12_init) := ggL_law_X12_init
set_option maxRecDepth 20000 in
theorem ggL_law_X11_feed : GoodIn wsL_law wsX11_feed := goodIn_r _ [134, 15, 135, 136, 137, 138, 14, 139, 39, 140, 141, 142, 143, 144, 145, 146, 147, 38, 952, 953, 954, 955, 956, 957, 958, 1008, 1009] (by decide +kernel) (by decide +kernel)
set_option maxRecDepth 20000 in
theorem gL_law_X11_feed : GoodIn wsL_law (wsV RL 13 RX11 yX11_feed wsX11_feed) := goodIn_app (goodIn_of _ (by decide +kernel)) ggL_law_X11_feed
set_option maxRecDepth 20000 in
theorem ggL_law_X12_feed : GoodIn wsL_law wsX12_feed := goodIn_r _ [151, 152, 153, 154, 155, 5, 156, 94, 959, 960, 961, 962, 963, 964, 965, 966, 967, 968, 969, 970, 971, 972, 973, 974, 975, 976, 977, 978, 979, 980, 981, 982, 983, 984, 985, 986, 987, 988, 989, 990, 991, 992, 993, 994, 995, 996, 997, 998, 999, 1000, 1001, 1002, 1003, 1004, 1005, 1006, 1007] (by decide +kernel) (by decide +kernel)
set_option maxRecDepth 20000 in
theorem gL_law_X12_feed : GoodIn wsL_law (wsV RL 17 RX12 yX12_feed wsX12_feed) := goodIn_app (goodIn_of _ (by decide +kernel)) ggL_law_X12_feed
set_option maxRecDepth 20000 in
theorem ggL_law_X11_end : GoodIn wsL_law wsX11_end := goodIn_r _ [160, 15, 135, 161, 162, 2, 163, 952, 953, 954, 955, 956, 957, 958, 1008, 1009] (by decide +kernel) (by decide +kernel)
set_option maxRecDepth 20000 in
theorem gL_law_X11_end : GoodIn wsL_law (wsV RL 18 RX11 yX11_end wsX11_end) := goodIn_app (goodIn_of _ (by decide +kernel)) ggL_law_X11_end
set_option maxRecDepth 20000 in
theorem ggL_law_X12_end : GoodIn wsL_law wsX12_end := goodIn_r _ [167, 152, 959, 960, 961, 962, 963, 964, 965, 966, 967, 968, 969, 970, 971, 972, 973, 974, 975, 976, 977, 978, 979, 980, 981, 982, 983, 984, 985, 986, 987, 988, 989, 990, 991, 992, 993, 994, 995, 996, 997, 998, 999, 1000, 1001, 1002, 1003, 1004, 1005, 1006, 1007] (by decide +kernel) (by decide +kernel)
set_option maxRecDepth 20000 in
theorem gL_law_X12_end : GoodIn wsL_law (wsV RL 22 RX12 yX12_end wsX12_end) := goodIn_app (goodIn_of _ (by decide +kernel)) ggL_law_X12_end
set_option maxRecDepth 20000 in
theorem ggL_law_X11_form : GoodIn wsL_law wsX11_form := goodIn_r _ [171, 19, 172, 15, 135, 173, 174, 175, 176, 177, 2, 178, 161, 162, 163, 179, 180, 181, 182, 183, 184, 185, 186, 187, 14, 188, 39, 38, 189, 190, 191, 192, 10, 11, 193, 194, 195, 196, 197, 198, 199, 200, 201, 202, 203, 204, 78, 205, 206, 207, 208, 209, 210, 211, 37, 212, 213, 214, 215, 216, 217, 218, 219, 220, 221, 222, 18, 223, 47, 224, 44, 48, 46, 225, 226, 227, 228, 229, 230, 231, 232, 233, 234, 235, 236, 237, 238, 239, 240, 241, 242, 243, 244, 245, 246, 247, 248, 249, 952, 953, 954, 955, 956, 957, 958, 1010, 1011, 1012, 1013, 1014, 1008, 1009, 1030, 1031, 1032, 1033, 1034, 1035, 1036, 1037, 1038, 1039, 1040, 1041, 1042, 1043, 1044, 1045, 1046] (by decide +kernel) (by decide +kernel)
set_option maxRecDepth 20000 in
theorem gL_law_X11_form : GoodIn wsL_law (wsV RL 23 RX11 yX11_form wsX11_form) := goodIn_app (goodIn_of _ (by decide +kernel)) ggL_law_X11_form
set_option maxRecDepth 20000 in
theorem ggL_law_X12_form : GoodIn wsL_law wsX12_form := goodIn_r _ [253, 152, 254, 95, 94, 96, 97, 98, 99, 100, 255, 256, 257, 5, 258, 259, 260, 261, 959, 960, 961, 962, 963, 964, 965, 966, 967, 968, 969, 970, 971, 972, 973, 974, 975, 976, 977, 978, 979, 980, 981, 982, 983, 984, 985, 986, 987, 988, 989, 990, 991, 992, 993, 994, 995, 996, 997, 998, 999, 1000, 1001, 1002, 1003, 1004, 1005, 1006, 1007] (by decide +kernel) (by decide +kernel)
set_option maxRecDepth 20000 in
theorem gL_law_X12_form : GoodIn wsL_law (wsV RL 27 RX12 yX12_form wsX12_form) := goodIn_app (goodIn_of _ (by decide +kernel)) ggL_law_X12_form
set_option maxRecDepth 20000 in
theorem ggL_law_X11_rule : GoodIn wsL_law wsX11_rule := goodIn_r _ [265, 19, 266, 15, 135, 267, 268, 236, 161, 162, 2, 163, 185, 186, 187, 14, 188, 39, 38, 182, 183, 184, 269, 270, 271, 272, 273, 274, 275, 10, 11, 276, 277, 278, 244, 239, 249, 279, 280, 281, 282, 283, 284, 204, 78, 205, 206, 207, 208, 209, 210, 211, 37, 212, 213, 214, 215, 216, 217, 218, 219, 285, 286, 287, 18, 288, 48, 231, 46, 47, 44, 225, 226, 227, 228, 229, 230, 232, 233, 234, 235, 237, 238, 240, 241, 242, 243, 245, 246, 247, 248, 952, 953, 954, 955, 956, 957, 958, 1010, 1011, 1012, 1013, 1014, 1008, 1009, 1038, 1039, 1040, 1041, 1042, 1043, 1044, 1045, 1046, 1030, 1031, 1032, 1033, 1034, 1035, 1036, 1037] (by decide +kernel) (by decide +kernel)
set_option maxRecDepth 20000 in
theorem gL_law_X11_rule : GoodIn wsL_law (wsV RL 28 RX11 yX11_rule wsX11_rule) := goodIn_app (goodIn_of _ (by decide +kernel)) ggL_law_X11_rule
set_option maxRecDepth 20000 in
theorem ggL_law_X12_rule : GoodIn wsL_law wsX12_rule := goodIn_r _ [292, 152, 293, 101, 94, 102, 103, 104, 105, 106, 107, 255, 256, 257, 5, 258, 259, 260, 261, 959, 960, 961, 962, 963, 964, 965, 966, 967, 968, 969, 970, 971, 972, 973, 974, 975, 976, 977, 978, 979, 980, 981, 982, 983, 984, 985, 986, 987, 988, 989, 990, 991, 992, 993, 994, 995, 996, 997, 998, 999, 1000, 1001, 1002, 1003, 1004, 1005, 1006, 1007] (by decide +kernel) (by decide +kernel)
set_option maxRecDepth 20000 in
theorem gL_law_X12_rule : GoodIn wsL_law (wsV RL 31 RX12 yX12_rule wsX12_rule) := goodIn_app (goodIn_of _ (by decide +kernel)) ggL_law_X12_rule
set_option maxRecDepth 20000 in
theorem ggL_law_X11_cost : GoodIn wsL_law wsX11_cost := goodIn_r _ [297, 19, 298, 299, 300, 301, 18, 302, 47, 44, 182, 183, 2, 184, 161, 162, 163, 952, 953, 954, 955, 956, 957, 958, 1030, 1031, 1032, 1033, 1034, 1035, 1036, 1037, 1010, 1011, 1012, 1013, 1014] (by decide +kernel) (by decide +kernel)
set_option maxRecDepth 20000 in
theorem gL_law_X11_cost : GoodIn wsL_law (wsV RL 32 RX11 yX11_cost wsX11_cost) := goodIn_app (goodIn_of _ (by decide +kernel)) ggL_law_X11_cost
set_option maxRecDepth 20000 in
theorem ggL_law_X12_cost : GoodIn wsL_law wsX12_cost := goodIn_r _ [306, 99, 307, 308, 309, 5, 310, 254, 259, 260, 261, 959, 960, 961, 962, 963, 964, 965, 966, 967, 968, 969, 970, 971, 972, 973, 974, 975, 976, 977, 978, 979, 980, 981, 982, 983, 984, 985, 986, 987, 988, 989, 990, 991, 992, 993, 994, 995, 996, 997, 998, 999, 1000, 1001, 1002, 1003, 1004, 1005, 1006, 1007] (by decide +kernel) (by decide +kernel)
set_option maxRecDepth 20000 in
theorem gL_law_X12_cost : GoodIn wsL_law (wsV RL 36 RX12 yX12_cost wsX12_cost) := goodIn_app (goodIn_of _ (by decide +kernel)) ggL_law_X12_cost
set_option maxRecDepth 20000 in
theorem ggL_law_X11_meets : GoodIn wsL_law wsX11_meets := goodIn_r _ [314, 19, 176, 177, 2, 178, 161, 162, 163, 315, 316, 317, 18, 318, 50, 952, 953, 954, 955, 956, 957, 958, 1010, 1011, 1012, 1013, 1014] (by decide +kernel) (by decide +kernel)
set_option maxRecDepth 20000 in
theorem gL_law_X11_meets : GoodIn wsL_law (wsV RL 37 RX11 yX11_meets wsX11_meets) := goodIn_app (goodIn_of _ (by decide +kernel)) ggL_law_X11_meets
set_option maxRecDepth 20000 in
theorem ggL_law_X12_meets : GoodIn wsL_law wsX12_meets := goodIn_r _ [322, 108, 323, 324, 5, 325, 259, 260, 261, 959, 960, 961, 962, 963, 964, 965, 966, 967, 968, 969, 970, 971, 972, 973, 974, 975, 976, 977, 978, 979, 980, 981, 982, 983, 984, 985, 986, 987, 988, 989, 990, 991, 992, 993, 994, 995, 996, 997, 998, 999, 1000, 1001, 1002, 1003, 1004, 1005, 1006, 1007] (by decide +kernel) (by decide +kernel)
set_option maxRecDepth 20000 in
theorem gL_law_X12_meets : GoodIn wsL_law (wsV RL 41 RX12 yX12_meets wsX12_meets) := goodIn_app (goodIn_of _ (by decide +kernel)) ggL_law_X12_meets
set_option maxRecDepth 20000 in
theorem ggL_law_X11_becomes : GoodIn wsL_law wsX11_becomes := goodIn_r _ [329, 27, 176, 177, 2, 178, 161, 162, 163, 330, 331, 332, 26, 333, 74, 952, 953, 954, 955, 956, 957, 958, 1019, 1020] (by decide +kernel) (by decide +kernel)
set_option maxRecDepth 20000 in
theorem gL_law_X11_becomes : GoodIn wsL_law (wsV RL 42 RX11 yX11_becomes wsX11_becomes) := goodIn_app (goodIn_of _ (by decide +kernel)) ggL_law_X11_becomes
set_option maxRecDepth 20000 in
theorem ggL_law_X12_becomes : GoodIn wsL_law wsX12_becomes := goodIn_r _ [337, 109, 323, 324, 5, 325, 259, 260, 261, 959, 960, 961, 962, 963, 964, 965, 966, 967, 968, 969, 970, 971, 972, 973, 974, 975, 976, 977, 978, 979, 980, 981, 982, 983, 984, 985, 986, 987, 988, 989, 990, 991, 992, 993, 994, 995, 996, 997, 998, 999, 1000, 1001, 1002, 1003, 1004, 1005, 1006, 1007] (by decide +kernel) (by decide +kernel)
set_option maxRecDepth 20000 in
theorem gL_law_X12_becomes : GoodIn wsL_law (wsV RL 46 RX12 yX12_becomes wsX12_becomes) := goodIn_app (goodIn_of _ (by decide +kernel)) ggL_law_X12_becomes
set_option maxRecDepth 20000 in
theorem ggL_law_X11_fits : GoodIn wsL_law wsX11_fits := goodIn_r _ [341, 342, 343, 344, 2, 345, 19, 346, 347, 299, 300, 301, 18, 302, 47, 44, 269, 270, 271, 161, 162, 163, 348, 349, 350, 351, 48, 46, 352, 353, 354, 355, 356, 357, 358, 359, 360, 952, 953, 954, 955, 956, 957, 958, 1030, 1031, 1032, 1033, 1034, 1035, 1036, 1037, 1010, 1011, 1012, 1013, 1014, 1038, 1039, 1040, 1041, 1042, 1043, 1044, 1045, 1046] (by decide +kernel) (by decide +kernel)
set_option maxRecDepth 20000 in
theorem gL_law_X11_fits : GoodIn wsL_law (wsV RL 47 RX11 yX11_fits wsX11_fits) := goodIn_app (goodIn_of _ (by decide +kernel)) ggL_law_X11_fits
set_option maxRecDepth 20000 in
theorem ggL_law_X12_fits : GoodIn wsL_law wsX12_fits := goodIn_r _ [364, 293, 307, 308, 309, 5, 310, 254, 259, 260, 261, 365, 366, 367, 368, 369, 370, 371, 100, 106, 107, 102, 96, 103, 95, 101, 959, 960, 961, 962, 963, 964, 965, 966, 967, 968, 969, 970, 971, 972, 973, 974, 975, 976, 977, 978, 979, 980, 981, 982, 983, 984, 985, 986, 987, 988, 989, 990, 991, 992, 993, 994, 995, 996, 997, 998, 999, 1000, 1001, 1002, 1003, 1004, 1005, 1006, 1007] (by decide +kernel) (by decide +kernel)
set_option maxRecDepth 20000 in
theorem gL_law_X12_fits : GoodIn wsL_law (wsV RL 50 RX12 yX12_fits wsX12_fits) := goodIn_app (goodIn_of _ (by decide +kernel)) ggL_law_X12_fits
set_option maxRecDepth 20000 in
theorem ggL_law_X11_fitting : GoodIn wsL_law wsX11_fitting := goodIn_r _ [375, 342, 343, 344, 2, 345, 19, 346, 347, 299, 300, 301, 18, 302, 47, 44, 269, 270, 271, 161, 162, 163, 348, 349, 350, 351, 48, 46, 352, 353, 376, 377, 378, 952, 953, 954, 955, 956, 957, 958, 1030, 1031, 1032, 1033, 1034, 1035, 1036, 1037, 1010, 1011, 1012, 1013, 1014, 1038, 1039, 1040, 1041, 1042, 1043, 1044, 1045, 1046] (by decide +kernel) (by decide +kernel)
set_option maxRecDepth 20000 in
theorem gL_law_X11_fitting : GoodIn wsL_law (wsV RL 51 RX11 yX11_fitting wsX11_fitting) := goodIn_app (goodIn_of _ (by decide +kernel)) ggL_law_X11_fitting
set_option maxRecDepth 20000 in
theorem ggL_law_X12_fitting : GoodIn wsL_law wsX12_fitting := goodIn_r _ [382, 293, 307, 308, 309, 5, 310, 254, 259, 260, 261, 365, 366, 367, 368, 369, 370, 371, 100, 106, 107, 102, 96, 103, 95, 101, 959, 960, 961, 962, 963, 964, 965, 966, 967, 968, 969, 970, 971, 972, 973, 974, 975, 976, 977, 978, 979, 980, 981, 982, 983, 984, 985, 986, 987, 988, 989, 990, 991, 992, 993, 994, 995, 996, 997, 998, 999, 1000, 1001, 1002, 1003, 1004, 1005, 1006, 1007] (by decide +kernel) (by decide +kernel)
set_option maxRecDepth 20000 in
theorem gL_law_X12_fitting : GoodIn wsL_law (wsV RL 55 RX12 yX12_fitting wsX12_fitting) := goodIn_app (goodIn_of _ (by decide +kernel)) ggL_law_X12_fitting
set_option maxRecDepth 20000 in
theorem ggL_law_X11_row : GoodIn wsL_law wsX11_row := goodIn_r _ [386, 23, 387, 388, 389, 269, 270, 2, 271, 161, 162, 163, 952, 953, 954, 955, 956, 957, 958, 1015, 1016, 1017, 1018, 1027, 1028, 1029] (by decide +kernel) (by decide +kernel)
set_option maxRecDepth 20000 in
theorem gL_law_X11_row : GoodIn wsL_law (wsV RL 56 RX11 yX11_row wsX11_row) := goodIn_app (goodIn_of _ (by decide +kernel)) ggL_law_X11_row
set_option maxRecDepth 20000 in
theorem ggL_law_X12_row : GoodIn wsL_law wsX12_row := goodIn_r _ [393, 394, 395, 365, 366, 5, 367, 259, 260, 261, 959, 960, 961, 962, 963, 964, 965, 966, 967, 968, 969, 970, 971, 972, 973, 974, 975, 976, 977, 978, 979, 980, 981, 982, 983, 984, 985, 986, 987, 988, 989, 990, 991, 992, 993, 994, 995, 996, 997, 998, 999, 1000, 1001, 1002, 1003, 1004, 1005, 1006, 1007] (by decide +kernel) (by decide +kernel)
set_option maxRecDepth 20000 in
theorem gL_law_X12_row : GoodIn wsL_law (wsV RL 59 RX12 yX12_row wsX12_row) := goodIn_app (goodIn_of _ (by decide +kernel)) ggL_law_X12_row
set_option maxRecDepth 20000 in
theorem ggL_law_X11_joins : GoodIn wsL_law wsX11_joins := goodIn_r _ [399, 19, 23, 387, 388, 299, 300, 301, 18, 302, 47, 44, 400, 401, 402, 56, 403, 68, 404, 405, 406, 407, 65, 408, 409, 410, 411, 67, 412, 413, 414, 2, 415, 346, 347, 389, 416, 417, 418, 348, 349, 350, 351, 48, 46, 352, 353, 419, 420, 421, 422, 376, 377, 378, 423, 424, 425, 426, 427, 428, 429, 430, 431, 432, 433, 434, 435, 952, 953, 954, 955, 956, 957, 958, 1015, 1016, 1017, 1018, 1027, 1028, 1029, 1010, 1011, 1012, 1013, 1014, 1030, 1031, 1032, 1033, 1034, 1035, 1036, 1037, 1038, 1039, 1040, 1041, 1042, 1043, 1044, 1045, 1046] (by decide +kernel) (by decide +kernel)
set_option maxRecDepth 20000 in
theorem gL_law_X11_joins : GoodIn wsL_law (wsV RL 60 RX11 yX11_joins wsX11_joins) := goodIn_app (goodIn_of _ (by decide +kernel)) ggL_law_X11_joins
set_option maxRecDepth 20000 in
theorem ggL_law_X12_joins : GoodIn wsL_law wsX12_joins := goodIn_r _ [439, 394, 112, 395, 293, 102, 96, 103, 113, 307, 308, 309, 5, 310, 254, 259, 260, 261, 440, 362, 363, 364, 365, 366, 367, 368, 369, 370, 371, 100, 106, 107, 95, 101, 441, 442, 443, 444, 959, 960, 961, 962, 963, 964, 965, 966, 967, 968, 969, 970, 971, 972, 973, 974, 975, 976, 977, 978, 979, 980, 981, 982, 983, 984, 985, 986, 987, 988, 989, 990, 991, 992, 993, 994, 995, 996, 997, 998, 999, 1000, 1001, 1002, 1003, 1004, 1005, 1006, 1007] (by decide +kernel) (by decide +kernel)
set_option maxRecDepth 20000 in
theorem gL_law_X12_joins : GoodIn wsL_law (wsV RL 63 RX12 yX12_joins wsX12_joins) := goodIn_app (goodIn_of _ (by decide +kernel)) ggL_law_X12_joins
set_option maxRecDepth 20000 in
theorem ggL_law_X11_joined : GoodIn wsL_law wsX11_joined := goodIn_r _ [448, 23, 449, 450, 451, 452, 22, 453, 60, 57, 454, 455, 456, 457, 458, 459, 460, 461, 462, 463, 58, 464, 428, 429, 56, 430, 431, 432, 433, 434, 435, 68, 67, 465, 466, 467, 468, 469, 952, 953, 954, 955, 956, 957, 958, 1015, 1016, 1017, 1018, 1027, 1028, 1029, 1038, 1039, 1040, 1041, 1042, 1043, 1044, 1045, 1046, 1030, 1031, 1032, 1033, 1034, 1035, 1036, 1037] (by decide +kernel) (by decide +kernel)
set_option maxRecDepth 20000 in
theorem gL_law_X11_joined : GoodIn wsL_law (wsV RL 64 RX11 yX11_joined wsX11_joined) := goodIn_app (goodIn_of _ (by decide +kernel)) ggL_law_X11_joined
set_option maxRecDepth 20000 in
theorem ggL_law_X12_joined : GoodIn wsL_law wsX12_joined := goodIn_r _ [473, 474, 394, 112, 113, 104, 101, 102, 103, 96, 95, 475, 476, 477, 5, 478, 114, 441, 442, 443, 444, 959, 960, 961, 962, 963, 964, 965, 966, 967, 968, 969, 970, 971, 972, 973, 974, 975, 976, 977, 978, 979, 980, 981, 982, 983, 984, 985, 986, 987, 988, 989, 990, 991, 992, 993, 994, 995, 996, 997, 998, 999, 1000, 1001, 1002, 1003, 1004, 1005, 1006, 1007] (by decide +kernel) (by decide +kernel)
set_option maxRecDepth 20000 in
theorem gL_law_X12_joined : GoodIn wsL_law (wsV RL 68 RX12 yX12_joined wsX12_joined) := goodIn_app (goodIn_of _ (by decide +kernel)) ggL_law_X12_joined
set_option maxRecDepth 20000 in
theorem ggL_law_X11_letter : GoodIn wsL_law wsX11_letter := goodIn_r _ [482, 23, 449, 483, 952, 953, 954, 955, 956, 957, 958, 1015, 1016, 1017, 1018] (by decide +kernel) (by decide +kernel)
set_option maxRecDepth 20000 in
theorem gL_law_X11_letter : GoodIn wsL_law (wsV RL 69 RX11 yX11_letter wsX11_letter) := goodIn_app (goodIn_of _ (by decide +kernel)) ggL_law_X11_letter
set_option maxRecDepth 20000 in
theorem ggL_law_X12_letter : GoodIn wsL_law wsX12_letter := goodIn_r _ [487, 474, 114, 259, 260, 5, 261, 959, 960, 961, 962, 963, 964, 965, 966, 967, 968, 969, 970, 971, 972, 973, 974, 975, 976, 977, 978, 979, 980, 981, 982, 983, 984, 985, 986, 987, 988, 989, 990, 991, 992, 993, 994, 995, 996, 997, 998, 999, 1000, 1001, 1002, 1003, 1004, 1005, 1006, 1007] (by decide +kernel) (by decide +kernel)
set_option maxRecDepth 20000 in
theorem gL_law_X12_letter : GoodIn wsL_law (wsV RL 72 RX12 yX12_letter wsX12_letter) := goodIn_app (goodIn_of _ (by decide +kernel)) ggL_law_X12_letter
set_option maxRecDepth 20000 in
theorem ggL_law_X11_back : GoodIn wsL_law wsX11_back := goodIn_r _ [491, 15, 23, 449, 483, 135, 136, 137, 138, 14, 139, 39, 492, 145, 146, 147, 38, 952, 953, 954, 955, 956, 957, 958, 1015, 1016, 1017, 1018, 1008, 1009] (by decide +kernel) (by decide +kernel)
set_option maxRecDepth 20000 in
theorem gL_law_X11_back : GoodIn wsL_law (wsV RL 73 RX11 yX11_back wsX11_back) := goodIn_app (goodIn_of _ (by decide +kernel)) ggL_law_X11_back
set_option maxRecDepth 20000 in
theorem ggL_law_X12_back : GoodIn wsL_law wsX12_back := goodIn_r _ [496, 152, 474, 94, 114, 959, 960, 961, 962, 963, 964, 965, 966, 967, 968, 969, 970, 971, 972, 973, 974, 975, 976, 977, 978, 979, 980, 981, 982, 983, 984, 985, 986, 987, 988, 989, 990, 991, 992, 993, 994, 995, 996, 997, 998, 999, 1000, 1001, 1002, 1003, 1004, 1005, 1006, 1007] (by decide +kernel) (by decide +kernel)
set_option maxRecDepth 20000 in
theorem gL_law_X12_back : GoodIn wsL_law (wsV RL 76 RX12 yX12_back wsX12_back) := goodIn_app (goodIn_of _ (by decide +kernel)) ggL_law_X12_back
set_option maxRecDepth 20000 in
theorem ggL_law_X11_part : GoodIn wsL_law wsX11_part := goodIn_r _ [500, 15, 135, 501, 32, 502, 503, 504, 19, 505, 506, 161, 162, 2, 163, 185, 186, 187, 14, 188, 39, 38, 269, 270, 271, 507, 508, 509, 510, 10, 11, 511, 512, 513, 514, 515, 516, 517, 73, 518, 519, 520, 521, 522, 523, 524, 525, 526, 527, 528, 529, 530, 531, 532, 533, 37, 534, 118, 535, 536, 537, 538, 539, 540, 541, 49, 542, 543, 544, 545, 546, 547, 55, 56, 548, 549, 550, 551, 552, 553, 61, 62, 63, 64, 65, 66, 67, 68, 554, 555, 556, 557, 558, 559, 560, 561, 562, 213, 214, 215, 563, 349, 350, 18, 351, 48, 46, 352, 353, 564, 565, 566, 567, 568, 569, 570, 571, 572, 573, 78, 574, 575, 77, 79, 576, 577, 578, 579, 580, 581, 582, 583, 584, 585, 586, 587, 588, 589, 590, 591, 592, 593, 594, 595, 596, 597, 598, 599, 600, 601, 602, 603, 604, 605, 606, 607, 608, 609, 377, 378, 610, 611, 612, 613, 614, 615, 616, 617, 241, 242, 236, 243, 244, 618, 619, 620, 621, 622, 623, 624, 625, 626, 627, 628, 629, 630, 631, 632, 633, 634, 635, 636, 637, 638, 639, 640, 641, 642, 643, 50, 644, 645, 646, 647, 648, 649, 650, 651, 652, 653, 654, 655, 656, 657, 658, 659, 660, 661, 662, 663, 664, 665, 666, 667, 668, 669, 670, 300, 301, 302, 47, 44, 671, 409, 410, 411, 672, 673, 674, 675, 676, 677, 678, 679, 680, 681, 682, 683, 684, 685, 686, 687, 688, 689, 690, 691, 401, 402, 403, 404, 405, 406, 407, 692, 424, 425, 426, 427, 428, 429, 430, 431, 432, 433, 434, 435, 693, 694, 695, 696, 697, 698, 699, 700, 701, 702, 703, 704, 705, 706, 707, 708, 709, 710, 711, 712, 713, 714, 715, 716, 717, 718, 719, 720, 721, 722, 723, 724, 725, 726, 727, 420, 421, 422, 952, 953, 954, 955, 956, 957, 958, 1008, 1009, 1047, 1048, 1049, 1050, 1051, 1052, 1053, 1054, 1055, 1056, 1057, 1058, 1059, 1060, 1061, 1062, 1063, 1064, 1065, 1066, 1067, 1068, 1069, 1070, 1071, 1072, 1073, 1027, 1028, 1029, 1010, 1011, 1012, 1013, 1014, 1038, 1039, 1040, 1041, 1042, 1043, 1044, 1045, 1046, 1030, 1031, 1032, 1033, 1034, 1035, 1036, 1037] (by decide +kernel) (by decide +kernel)
set_option maxRecDepth 20000 in
theorem gL_law_X11_part : GoodIn wsL_law (wsV RL 77 RX11 yX11_part wsX11_part) := goodIn_app (goodIn_of _ (by decide +kernel)) ggL_law_X11_part
set_option maxRecDepth 20000 in
theorem ggL_law_X12_part : GoodIn wsL_law wsX12_part := goodIn_r _ [731, 152, 732, 733, 115, 94, 254, 116, 293, 734, 735, 736, 737, 738, 739, 127, 740, 122, 121, 255, 256, 257, 5, 258, 259, 260, 261, 365, 366, 367, 368, 369, 370, 371, 100, 106, 107, 102, 96, 103, 95, 101, 741, 742, 743, 744, 117, 119, 745, 746, 747, 748, 749, 750, 751, 752, 753, 754, 755, 756, 757, 758, 759, 108, 97, 760, 761, 762, 763, 104, 764, 765, 766, 767, 768, 769, 770, 771, 99, 105, 772, 773, 774, 775, 776, 777, 778, 779, 780, 781, 782, 783, 784, 785, 786, 123, 125, 126, 124, 959, 960, 961, 962, 963, 964, 965, 966, 967, 968, 969, 970, 971, 972, 973, 974, 975, 976, 977, 978, 979, 980, 981, 982, 983, 984, 985, 986, 987, 988, 989, 990, 991, 992, 993, 994, 995, 996, 997, 998, 999, 1000, 1001, 1002, 1003, 1004, 1005, 1006, 1007] (by decide +kernel) (by decide +kernel)
set_option maxRecDepth 20000 in
theorem gL_law_X12_part : GoodIn wsL_law (wsV RL 81 RX12 yX12_part wsX12_part) := goodIn_app (goodIn_of _ (by decide +kernel)) ggL_law_X12_part
set_option maxRecDepth 20000 in
theorem ggL_law_X11_parted : GoodIn wsL_law wsX11_parted := goodIn_r _ [790, 32, 501, 791, 506, 792, 793, 952, 953, 954, 955, 956, 957, 958, 1047, 1048, 1049, 1050, 1051, 1052, 1053, 1054, 1055, 1056] (by decide +kernel) (by decide +kernel)
set_option maxRecDepth 20000 in
theorem gL_law_X11_parted : GoodIn wsL_law (wsV RL 82 RX11 yX11_parted wsX11_parted) := goodIn_app (goodIn_of _ (by decide +kernel)) ggL_law_X11_parted
set_option maxRecDepth 20000 in
theorem ggL_law_X12_parted : GoodIn wsL_law wsX12_parted := goodIn_r _ [797, 734, 732, 736, 737, 738, 739, 959, 960, 961, 962, 963, 964, 965, 966, 967, 968, 969, 970, 971, 972, 973, 974, 975, 976, 977, 978, 979, 980, 981, 982, 983, 984, 985, 986, 987, 988, 989, 990, 991, 992, 993, 994, 995, 996, 997, 998, 999, 1000, 1001, 1002, 1003, 1004, 1005, 1006, 1007] (by decide +kernel) (by decide +kernel)
set_option maxRecDepth 20000 in
theorem gL_law_X12_parted : GoodIn wsL_law (wsV RL 85 RX12 yX12_parted wsX12_parted) := goodIn_app (goodIn_of _ (by decide +kernel)) ggL_law_X12_parted
set_option maxRecDepth 20000 in
theorem ggL_law_X11_parting : GoodIn wsL_law wsX11_parting := goodIn_r _ [801, 802, 803, 388, 804, 805, 806, 2, 807, 32, 793, 808, 1068, 1069, 1070, 1071, 1072, 1073, 1027, 1028, 1029, 952, 953, 954, 955, 956, 957, 958, 1047, 1048, 1049, 1050, 1051, 1052, 1053, 1054, 1055, 1056] (by decide +kernel) (by decide +kernel)
set_option maxRecDepth 20000 in
theorem gL_law_X11_parting : GoodIn wsL_law (wsV RL 86 RX11 yX11_parting wsX11_parting) := goodIn_app (goodIn_of _ (by decide +kernel)) ggL_law_X11_parting
set_option maxRecDepth 20000 in
theorem ggL_law_X12_parting : GoodIn wsL_law wsX12_parting := goodIn_r _ [812, 123, 124, 813, 814, 815, 5, 816, 734, 739, 259, 260, 261, 959, 960, 961, 962, 963, 964, 965, 966, 967, 968, 969, 970, 971, 972, 973, 974, 975, 976, 977, 978, 979, 980, 981, 982, 983, 984, 985, 986, 987, 988, 989, 990, 991, 992, 993, 994, 995, 996, 997, 998, 999, 1000, 1001, 1002, 1003, 1004, 1005, 1006, 1007] (by decide +kernel) (by decide +kernel)
set_option maxRecDepth 20000 in
theorem gL_law_X12_parting : GoodIn wsL_law (wsV RL 89 RX12 yX12_parting wsX12_parting) := goodIn_app (goodIn_of _ (by decide +kernel)) ggL_law_X12_parting
set_option maxRecDepth 20000 in
theorem ggL_law_X11_formOf : GoodIn wsL_law wsX11_formOf := goodIn_r _ [820, 803, 821, 804, 805, 806, 2, 807, 32, 793, 808, 822, 405, 406, 56, 407, 68, 65, 1068, 1069, 1070, 1071, 1072, 1073, 1030, 1031, 1032, 1033, 1034, 1035, 1036, 1037, 952, 953, 954, 955, 956, 957, 958, 1047, 1048, 1049, 1050, 1051, 1052, 1053, 1054, 1055, 1056, 1027, 1028, 1029] (by decide +kernel) (by decide +kernel)
set_option maxRecDepth 20000 in
theorem gL_law_X11_formOf : GoodIn wsL_law (wsV RL 90 RX11 yX11_formOf wsX11_formOf) := goodIn_app (goodIn_of _ (by decide +kernel)) ggL_law_X11_formOf
set_option maxRecDepth 20000 in
theorem ggL_law_X12_formOf : GoodIn wsL_law wsX12_formOf := goodIn_r _ [826, 124, 125, 813, 814, 815, 5, 816, 734, 739, 259, 260, 261, 959, 960, 961, 962, 963, 964, 965, 966, 967, 968, 969, 970, 971, 972, 973, 974, 975, 976, 977, 978, 979, 980, 981, 982, 983, 984, 985, 986, 987, 988, 989, 990, 991, 992, 993, 994, 995, 996, 997, 998, 999, 1000, 1001, 1002, 1003, 1004, 1005, 1006, 1007] (by decide +kernel) (by decide +kernel)
set_option maxRecDepth 20000 in
theorem gL_law_X12_formOf : GoodIn wsL_law (wsV RL 93 RX12 yX12_formOf wsX12_formOf) := goodIn_app (goodIn_of _ (by decide +kernel)) ggL_law_X12_formOf
set_option maxRecDepth 20000 in
theorem ggL_law_X11_ruleOf : GoodIn wsL_law wsX11_ruleOf := goodIn_r _ [830, 803, 831, 804, 805, 806, 2, 807, 32, 793, 808, 832, 433, 434, 56, 435, 68, 67, 1068, 1069, 1070, 1071, 1072, 1073, 1038, 1039, 1040, 1041, 1042, 1043, 1044, 1045, 1046, 952, 953, 954, 955, 956, 957, 958, 1047, 1048, 1049, 1050, 1051, 1052, 1053, 1054, 1055, 1056, 1027, 1028, 1029] (by decide +kernel) (by decide +kernel)
set_option maxRecDepth 20000 in
theorem gL_law_X11_ruleOf : GoodIn wsL_law (wsV RL 94 RX11 yX11_ruleOf wsX11_ruleOf) := goodIn_app (goodIn_of _ (by decide +kernel)) ggL_law_X11_ruleOf
set_option maxRecDepth 20000 in
theorem ggL_law_X12_ruleOf : GoodIn wsL_law wsX12_ruleOf := goodIn_r _ [836, 124, 126, 813, 814, 815, 5, 816, 734, 739, 259, 260, 261, 959, 960, 961, 962, 963, 964, 965, 966, 967, 968, 969, 970, 971, 972, 973, 974, 975, 976, 977, 978, 979, 980, 981, 982, 983, 984, 985, 986, 987, 988, 989, 990, 991, 992, 993, 994, 995, 996, 997, 998, 999, 1000, 1001, 1002, 1003, 1004, 1005, 1006, 1007] (by decide +kernel) (by decide +kernel)
set_option maxRecDepth 20000 in
theorem gL_law_X12_ruleOf : GoodIn wsL_law (wsV RL 97 RX12 yX12_ruleOf wsX12_ruleOf) := goodIn_app (goodIn_of _ (by decide +kernel)) ggL_law_X12_ruleOf
set_option maxRecDepth 20000 in
theorem ggL_law_X11_trees : GoodIn wsL_law wsX11_trees := goodIn_r _ [840, 501, 27, 803, 804, 805, 806, 2, 807, 32, 793, 808, 176, 177, 178, 161, 162, 163, 841, 842, 843, 26, 844, 75, 845, 118, 846, 847, 848, 849, 573, 78, 574, 850, 851, 852, 853, 854, 855, 856, 857, 74, 858, 859, 860, 861, 595, 596, 597, 598, 599, 214, 600, 952, 953, 954, 955, 956, 957, 958, 1068, 1069, 1070, 1071, 1072, 1073, 1047, 1048, 1049, 1050, 1051, 1052, 1053, 1054, 1055, 1056, 1019, 1020, 1027, 1028, 1029, 1030, 1031, 1032, 1033, 1034, 1035, 1036, 1037] (by decide +kernel) (by decide +kernel)
set_option maxRecDepth 20000 in
theorem gL_law_X11_trees : GoodIn wsL_law (wsV RL 98 RX11 yX11_trees wsX11_trees) := goodIn_app (goodIn_of _ (by decide +kernel)) ggL_law_X11_trees
set_option maxRecDepth 20000 in
theorem ggL_law_X12_trees : GoodIn wsL_law wsX12_trees := goodIn_r _ [865, 732, 124, 128, 97, 125, 109, 813, 814, 815, 5, 816, 734, 739, 259, 260, 261, 323, 324, 325, 866, 867, 868, 779, 776, 777, 778, 959, 960, 961, 962, 963, 964, 965, 966, 967, 968, 969, 970, 971, 972, 973, 974, 975, 976, 977, 978, 979, 980, 981, 982, 983, 984, 985, 986, 987, 988, 989, 990, 991, 992, 993, 994, 995, 996, 997, 998, 999, 1000, 1001, 1002, 1003, 1004, 1005, 1006, 1007] (by decide +kernel) (by decide +kernel)
set_option maxRecDepth 20000 in
theorem gL_law_X12_trees : GoodIn wsL_law (wsV RL 102 RX12 yX12_trees wsX12_trees) := goodIn_app (goodIn_of _ (by decide +kernel)) ggL_law_X12_trees
set_option maxRecDepth 20000 in
theorem ggL_law_X11_choose : GoodIn wsL_law wsX11_choose := goodIn_r _ [872, 31, 19, 803, 33, 873, 804, 805, 806, 2, 807, 32, 793, 808, 874, 875, 876, 30, 877, 84, 89, 878, 86, 879, 880, 88, 83, 87, 881, 217, 218, 219, 882, 883, 884, 885, 886, 887, 888, 889, 890, 891, 214, 892, 952, 953, 954, 955, 956, 957, 958, 1068, 1069, 1070, 1071, 1072, 1073, 1021, 1022, 1023, 1024, 1025, 1026, 1047, 1048, 1049, 1050, 1051, 1052, 1053, 1054, 1055, 1056, 1010, 1011, 1012, 1013, 1014, 1030, 1031, 1032, 1033, 1034, 1035, 1036, 1037, 1027, 1028, 1029] (by decide +kernel) (by decide +kernel)
set_option maxRecDepth 20000 in
theorem gL_law_X11_choose : GoodIn wsL_law (wsV RL 103 RX11 yX11_choose wsX11_choose) := goodIn_app (goodIn_of _ (by decide +kernel)) ggL_law_X11_choose
set_option maxRecDepth 20000 in
theorem ggL_law_X12_choose : GoodIn wsL_law wsX12_choose := goodIn_r _ [896, 897, 130, 129, 99, 110, 254, 124, 125, 98, 111, 813, 814, 815, 5, 816, 734, 739, 259, 260, 261, 959, 960, 961, 962, 963, 964, 965, 966, 967, 968, 969, 970, 971, 972, 973, 974, 975, 976, 977, 978, 979, 980, 981, 982, 983, 984, 985, 986, 987, 988, 989, 990, 991, 992, 993, 994, 995, 996, 997, 998, 999, 1000, 1001, 1002, 1003, 1004, 1005, 1006, 1007] (by decide +kernel) (by decide +kernel)
set_option maxRecDepth 20000 in
theorem gL_law_X12_choose : GoodIn wsL_law (wsV RL 106 RX12 yX12_choose wsX12_choose) := goodIn_app (goodIn_of _ (by decide +kernel)) ggL_law_X12_choose
set_option maxRecDepth 20000 in
theorem ggL_law_X11_undo : GoodIn wsL_law wsX11_undo := goodIn_r _ [901, 31, 19, 902, 903, 904, 30, 905, 84, 89, 88, 878, 879, 86, 880, 87, 83, 881, 217, 218, 219, 952, 953, 954, 955, 956, 957, 958, 1021, 1022, 1023, 1024, 1025, 1026, 1010, 1011, 1012, 1013, 1014, 1030, 1031, 1032, 1033, 1034, 1035, 1036, 1037] (by decide +kernel) (by decide +kernel)
set_option maxRecDepth 20000 in
theorem gL_law_X11_undo : GoodIn wsL_law (wsV RL 107 RX11 yX11_undo wsX11_undo) := goodIn_app (goodIn_of _ (by decide +kernel)) ggL_law_X11_undo
set_option maxRecDepth 20000 in
theorem ggL_law_X12_undo : GoodIn wsL_law wsX12_undo := goodIn_r _ [909, 897, 129, 99, 130, 110, 959, 960, 961, 962, 963, 964, 965, 966, 967, 968, 969, 970, 971, 972, 973, 974, 975, 976, 977, 978, 979, 980, 981, 982, 983, 984, 985, 986, 987, 988, 989, 990, 991, 992, 993, 994, 995, 996, 997, 998, 999, 1000, 1001, 1002, 1003, 1004, 1005, 1006, 1007] (by decide +kernel) (by decide +kernel)
set_option maxRecDepth 20000 in
theorem gL_law_X12_undo : GoodIn wsL_law (wsV RL 111 RX12 yX12_undo wsX12_undo) := goodIn_app (goodIn_of _ (by decide +kernel)) ggL_law_X12_undo
set_option maxRecDepth 20000 in
theorem ggL_law_X11_step : GoodIn wsL_law wsX11_step := goodIn_r _ [913, 33, 161, 162, 2, 163, 952, 953, 954, 955, 956, 957, 958] (by decide +kernel) (by decide +kernel)
set_option maxRecDepth 20000 in
theorem gL_law_X11_step : GoodIn wsL_law (wsV RL 112 RX11 yX11_step wsX11_step) := goodIn_app (goodIn_of _ (by decide +kernel)) ggL_law_X11_step
set_option maxRecDepth 20000 in
theorem ggL_law_X12_step : GoodIn wsL_law wsX12_step := goodIn_r _ [917, 111, 259, 260, 5, 261, 959, 960, 961, 962, 963, 964, 965, 966, 967, 968, 969, 970, 971, 972, 973, 974, 975, 976, 977, 978, 979, 980, 981, 982, 983, 984, 985, 986, 987, 988, 989, 990, 991, 992, 993, 994, 995, 996, 997, 998, 999, 1000, 1001, 1002, 1003, 1004, 1005, 1006, 1007] (by decide +kernel) (by decide +kernel)
set_option maxRecDepth 20000 in
theorem gL_law_X12_step : GoodIn wsL_law (wsV RL 115 RX12 yX12_step wsX12_step) := goodIn_app (goodIn_of _ (by decide +kernel)) ggL_law_X12_step
set_option maxRecDepth 20000 in
theorem ggL_law_X11_uses : GoodIn wsL_law wsX11_uses := goodIn_r _ [921, 31, 922, 179, 180, 2, 181, 161, 162, 163, 952, 953, 954, 955, 956, 957, 958, 1021, 1022, 1023, 1024, 1025, 1026] (by decide +kernel) (by decide +kernel)
set_option maxRecDepth 20000 in
theorem gL_law_X11_uses : GoodIn wsL_law (wsV RL 116 RX11 yX11_uses wsX11_uses) := goodIn_app (goodIn_of _ (by decide +kernel)) ggL_law_X11_uses
set_option maxRecDepth 20000 in
theorem ggL_law_X12_uses : GoodIn wsL_law wsX12_uses := goodIn_r _ [926, 110, 259, 260, 5, 261, 959, 960, 961, 962, 963, 964, 965, 966, 967, 968, 969, 970, 971, 972, 973, 974, 975, 976, 977, 978, 979, 980, 981, 982, 983, 984, 985, 986, 987, 988, 989, 990, 991, 992, 993, 994, 995, 996, 997, 998, 999, 1000, 1001, 1002, 1003, 1004, 1005, 1006, 1007] (by decide +kernel) (by decide +kernel)
set_option maxRecDepth 20000 in
theorem gL_law_X12_uses : GoodIn wsL_law (wsV RL 119 RX12 yX12_uses wsX12_uses) := goodIn_app (goodIn_of _ (by decide +kernel)) ggL_law_X12_uses
set_option maxRecDepth 20000 in
theorem ggL_law_X11_about : GoodIn wsL_law wsX11_about := goodIn_r _ [930, 19, 931, 932, 298, 933, 416, 299, 300, 301, 18, 302, 47, 44, 952, 953, 954, 955, 956, 957, 958, 1030, 1031, 1032, 1033, 1034, 1035, 1036, 1037, 1010, 1011, 1012, 1013, 1014] (by decide +kernel) (by decide +kernel)
set_option maxRecDepth 20000 in
theorem gL_law_X11_about : GoodIn wsL_law (wsV RL 120 RX11 yX11_about wsX11_about) := goodIn_app (goodIn_of _ (by decide +kernel)) ggL_law_X11_about
set_option maxRecDepth 20000 in
theorem ggL_law_X12_about : GoodIn wsL_law wsX12_about := goodIn_r _ [937, 97, 98, 99, 100, 96, 307, 308, 309, 5, 310, 254, 259, 260, 261, 959, 960, 961, 962, 963, 964, 965, 966, 967, 968, 969, 970, 971, 972, 973, 974, 975, 976, 977, 978, 979, 980, 981, 982, 983, 984, 985, 986, 987, 988, 989, 990, 991, 992, 993, 994, 995, 996, 997, 998, 999, 1000, 1001, 1002, 1003, 1004, 1005, 1006, 1007] (by decide +kernel) (by decide +kernel)
set_option maxRecDepth 20000 in
theorem gL_law_X12_about : GoodIn wsL_law (wsV RL 123 RX12 yX12_about wsX12_about) := goodIn_app (goodIn_of _ (by decide +kernel)) ggL_law_X12_about
set_option maxRecDepth 20000 in
theorem ggL_law_X11_count : GoodIn wsL_law wsX11_count := goodIn_r _ [941, 19, 172, 266, 15, 135, 23, 449, 387, 388, 31, 873, 33, 942, 943, 944, 56, 945, 68, 65, 946, 67, 947, 952, 953, 954, 955, 956, 957, 958, 1010, 1011, 1012, 1013, 1014, 1008, 1009, 1015, 1016, 1017, 1018, 1027, 1028, 1029, 1021, 1022, 1023, 1024, 1025, 1026, 1030, 1031, 1032, 1033, 1034, 1035, 1036, 1037, 1038, 1039, 1040, 1041, 1042, 1043, 1044, 1045, 1046] (by decide +kernel) (by decide +kernel)
set_option maxRecDepth 20000 in
theorem gL_law_X11_count : GoodIn wsL_law (wsV RL 124 RX11 yX11_count wsX11_count) := goodIn_app (goodIn_of _ (by decide +kernel)) ggL_law_X11_count
set_option maxRecDepth 20000 in
theorem ggL_law_X12_count : GoodIn wsL_law wsX12_count := goodIn_r _ [951, 254, 293, 152, 474, 394, 897, 111, 99, 112, 113, 105, 959, 960, 961, 962, 963, 964, 965, 966, 967, 968, 969, 970, 971, 972, 973, 974, 975, 976, 977, 978, 979, 980, 981, 982, 983, 984, 985, 986, 987, 988, 989, 990, 991, 992, 993, 994, 995, 996, 997, 998, 999, 1000, 1001, 1002, 1003, 1004, 1005, 1006, 1007] (by decide +kernel) (by decide +kernel)
set_option maxRecDepth 20000 in
theorem gL_law_X12_count : GoodIn wsL_law (wsV RL 127 RX12 yX12_count wsX12_count) := goodIn_app (goodIn_of _ (by decide +kernel)) ggL_law_X12_count
