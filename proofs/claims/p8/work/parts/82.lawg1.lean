set_option maxRecDepth 20000 in
theorem ggL_law_X11_init : GoodIn wsL_law wsX11_init := goodIn_r _ [8, 9, 10, 11, 12, 13, 14, 15, 16, 17, 18, 19, 20, 21, 22, 23, 24, 25, 26, 27, 28, 29, 30, 31, 32, 33, 34, 35, 36, 37, 38, 39, 40, 41, 42, 43, 44, 45, 46, 47, 48, 49, 50, 51, 52, 53, 54, 55, 56, 57, 58, 59, 60, 61, 62, 63, 64, 65, 66, 67, 68, 69, 70, 71, 72, 73, 74, 75, 76, 77, 78, 79, 80, 81, 82, 83, 84, 85, 86, 87, 88, 89, 1008, 1009, 952, 953, 954, 955, 956, 957, 958, 1010, 1011, 1012, 1013, 1014, 1015, 1016, 1017, 1018, 1019, 1020, 1021, 1022, 1023, 1024, 1025, 1026, 1027, 1028, 1029] (by decide +kernel) (by decide +kernel)
set_option maxRecDepth 20000 in
theorem gL_law_X11_init : GoodIn wsL_law (wsX11_init) := ggL_law_X11_init
set_option maxRecDepth 20000 in
theorem ggL_law_X12_init : GoodIn wsL_law wsX12_init := goodIn_r _ [92, 93, 10, 11, 37, 94, 95, 73, 96, 97, 98, 99, 49, 100, 101, 102, 103, 104, 105, 106, 107, 108, 109, 110, 111, 112, 113, 114, 115, 116, 117, 118, 119, 120, 121, 122, 123, 124, 125, 126, 127, 128, 129, 130, 959, 960, 961, 962, 963, 964, 965, 966, 967, 968, 969, 970, 971, 972, 973, 974, 975, 976, 977, 978, 979, 980, 981, 982, 983, 984, 985, 986, 987, 988, 989, 990, 991, 992, 993, 994, 995, 996, 997, 998, 999, 1000, 1001, 1002, 1003, 1004, 1005, 1006, 1007] (by decide +kernel) (by decide +kernel)
set_option maxRecDepth 20000 in
theorem gL_law_X12_init : GoodIn wsL_law (wsX12_init) := ggL_law_X12_init
set_option maxRecDepth 20000 in
theorem ggL_law_X11_feed : GoodIn wsL_law wsX11_feed := goodIn_r _ [134, 15, 135, 136, 137, 138, 14, 139, 39, 140, 141, 142, 143, 144, 145, 146, 147, 38, 952, 953, 954, 955, 956, 957, 958, 1008, 1009] (by decide +kernel) (by decide +kernel)
set_option maxRecDepth 20000 in
theorem gL_law_X11_feed : GoodIn wsL_law (wsV RL 13 RX11 yX11_feed wsX11_feed) := goodIn_app (goodIn_of _ (by decide +kernel)) ggL_law_X11_feed
set_option maxRecDepth 20000 in
theorem ggL_law_X12_feed : GoodIn wsL_law wsX12_feed := goodIn_r _ [151, 152, 153, 154, 155, 5, 156, 94, 959, 960, 961, 962, 963, 964, 965, 966, 967, 968, 969, 970, 971, 972, 973, 974, 975, 976, 977, 978, 979, 980, 981, 982, 983, 984, 985, 986, 987, 988, 989, 990, 991, 992, 993, 994, 995, 996, 997, 998, 999, 1000, 1001, 1002, 1003, 1004, 1005, 1006, 1007] (by decide +kernel) (by decide +kernel)
set_option maxRecDepth 20000 in
theorem gL_law_X12_feed : GoodIn wsL_law (wsV RL 17 RX12 yX12_feed wsX12_feed) := goodIn_app (goodIn_of _ (by decide +kernel)) ggL_law_X12_feed
set_option maxRecDepth 20000 in
theorem ggL_law_X11_end : GoodIn wsL_law wsX11_end := goodIn_r _ [160, 15, 135, 161, 162, 2, 163, 952, 953, 954, 955, 956, 957, 958, 1008, 1009] (by decide +kernel) (by decide +kernel)
set_option maxRecDepth 20000 in
theorem gL_law_X11_end : GoodIn wsL_law (wsV RL 18 RX11 yX11_end wsX11_end) := goodIn_app (goodIn_of _ (by decide +kernel)) ggL_law_X11_end
set_option maxRecDepth 20000 in
theorem ggL_law_X12_end : GoodIn wsL_law wsX12_end := goodIn_r _ [167, 152, 959, 960, 961, 962, 963, 964, 965, 966, 967, 968, 969, 970, 971, 972, 973, 974, 975, 976, 977, 978, 979, 980, 981, 982, 983, 984, 985, 986, 987, 988, 989, 990, 991, 992, 993, 994, 995, 996, 997, 998, 999, 1000, 1001, 1002, 1003, 1004, 1005, 1006, 1007] (by decide +kernel) (by decide +kernel)
set_option maxRecDepth 20000 in
theorem gL_law_X12_end : GoodIn wsL_law (wsV RL 22 RX12 yX12_end wsX12_end) := goodIn_app (goodIn_of _ (by decide +kernel)) ggL_law_X12_end
set_option maxRecDepth 20000 in
theorem ggL_law_X11_form : GoodIn wsL_law wsX11_form := goodIn_r _ [171, 19, 172, 15, 135, 173, 174, 175, 176, 177, 2, 178, 161, 162, 163, 179, 180, 181, 182, 183, 184, 185, 186, 187, 14, 188, 39, 38, 189, 190, 191, 192, 10, 11, 193, 194, 195, 196, 197, 198, 199, 200, 201, 202, 203, 204, 78, 205, 206, 207, 208, 209, 210, 211, 37, 212, 213, 214, 215, 216, 217, 218, 219, 220, 221, 222, 18, 223, 47, 224, 44, 48, 46, 225, 226, 227, 228, 229, 230, 231, 232, 233, 234, 235, 236, 237, 238, 239, 240, 241, 242, 243, 244, 245, 246, 247, 248, 249, 952, 953, 954, 955, 956, 957, 958, 1010, 1011, 1012, 1013, 1014, 1008, 1009, 1030, 1031, 1032, 1033, 1034, 1035, 1036, 1037, 1038, 1039, 1040, 1041, 1042, 1043, 1044, 1045, 1046] (by decide +kernel) (by decide +kernel)
set_option maxRecDepth 20000 in
theorem gL_law_X11_form : GoodIn wsL_law (wsV RL 23 RX11 yX11_form wsX11_form) := goodIn_app (goodIn_of _ (by decide +kernel)) ggL_law_X11_form
set_option maxRecDepth 20000 in
theorem ggL_law_X12_form : GoodIn wsL_law wsX12_form := goodIn_r _ [253, 152, 254, 95, 94, 96, 97, 98, 99, 100, 255, 256, 257, 5, 258, 259, 260, 261, 959, 960, 961, 962, 963, 964, 965, 966, 967, 968, 969, 970, 971, 972, 973, 974, 975, 976, 977, 978, 979, 980, 981, 982, 983, 984, 985, 986, 987, 988, 989, 990, 991, 992, 993, 994, 995, 996, 997, 998, 999, 1000, 1001, 1002, 1003, 1004, 1005, 1006, 1007] (by decide +kernel) (by decide +kernel)
set_option maxRecDepth 20000 in
theorem gL_law_X12_form : GoodIn wsL_law (wsV RL 27 RX12 yX12_form wsX12_form) := goodIn_app (goodIn_of _ (by decide +kernel)) ggL_law_X12_form
set_option maxRecDepth 20000 in
theorem ggL_law_X11_rule : GoodIn wsL_law wsX11_rule := goodIn_r _ [265, 19, 266, 15, 135, 267, 268, 236, 161, 162, 2, 163, 185, 186, 187, 14, 188, 39, 38, 182, 183, 184, 269, 270, 271, 272, 273, 274, 275, 10, 11, 276, 277, 278, 244, 239, 249, 279, 280, 281, 282, 283, 284, 204, 78, 205, 206, 207, 208, 209, 210, 211, 37, 212, 213, 214, 215, 216, 217, 218, 219, 285, 286, 287, 18, 288, 48, 231, 46, 47, 44, 225, 226, 227, 228, 229, 230, 232, 233, 234, 235, 237, 238, 240, 241, 242, 243, 245, 246, 247, 248, 952, 953, 954, 955, 956, 957, 958, 1010, 1011, 1012, 1013, 1014, 1008, 1009, 1038, 1039, 1040, 1041, 1042, 1043, 1044, 1045, 1046, 1030, 1031, 1032, 1033, 1034, 1035, 1036, 1037] (by decide +kernel) (by decide +kernel)
set_option maxRecDepth 20000 in
theorem gL_law_X11_rule : GoodIn wsL_law (wsV RL 28 RX11 yX11_rule wsX11_rule) := goodIn_app (goodIn_of _ (by decide +kernel)) ggL_law_X11_rule
set_option maxRecDepth 20000 in
theorem ggL_law_X12_rule : GoodIn wsL_law wsX12_rule := goodIn_r _ [292, 152, 293, 101, 94, 102, 103, 104, 105, 106, 107, 255, 256, 257, 5, 258, 259, 260, 261, 959, 960, 961, 962, 963, 964, 965, 966, 967, 968, 969, 970, 971, 972, 973, 974, 975, 976, 977, 978, 979, 980, 981, 982, 983, 984, 985, 986, 987, 988, 989, 990, 991, 992, 993, 994, 995, 996, 997, 998, 999, 1000, 1001, 1002, 1003, 1004, 1005, 1006, 1007] (by decide +kernel) (by decide +kernel)
set_option maxRecDepth 20000 in
theorem gL_law_X12_rule : GoodIn wsL_law (wsV RL 31 RX12 yX12_rule wsX12_rule) := goodIn_app (goodIn_of _ (by decide +kernel)) ggL_law_X12_rule
set_option maxRecDepth 20000 in
theorem ggL_law_X11_cost : GoodIn wsL_law wsX11_cost := goodIn_r _ [297, 19, 298, 299, 300, 301, 18, 302, 47, 44, 182, 183, 2, 184, 161, 162, 163, 952, 953, 954, 955, 956, 957, 958, 1030, 1031, 1032, 1033, 1034, 1035, 1036, 1037, 1010, 1011, 1012, 1013, 1014] (by decide +kernel) (by decide +kernel)
set_option maxRecDepth 20000 in
theorem gL_law_X11_cost : GoodIn wsL_law (wsV RL 32 RX11 yX11_cost wsX11_cost) := goodIn_app (goodIn_of _ (by decide +kernel)) ggL_law_X11_cost
set_option maxRecDepth 20000 in
theorem ggL_law_X12_cost : GoodIn wsL_law wsX12_cost := goodIn_r _ [306, 99, 307, 308, 309, 5, 310, 254, 259, 260, 261, 959, 960, 961, 962, 963, 964, 965, 966, 967, 968, 969, 970, 971, 972, 973, 974, 975, 976, 977, 978, 979, 980, 981, 982, 983, 984, 985, 986, 987, 988, 989, 990, 991, 992, 993, 994, 995, 996, 997, 998, 999, 1000, 1001, 1002, 1003, 1004, 1005, 1006, 1007] (by decide +kernel) (by decide +kernel)
set_option maxRecDepth 20000 in
theorem gL_law_X12_cost : GoodIn wsL_law (wsV RL 36 RX12 yX12_cost wsX12_cost) := goodIn_app (goodIn_of _ (by decide +kernel)) ggL_law_X12_cost
set_option maxRecDepth 20000 in
theorem ggL_law_X11_meets : GoodIn wsL_law wsX11_meets := goodIn_r _ [314, 19, 176, 177, 2, 178, 161, 162, 163, 315, 316, 317, 18, 318, 50, 952, 953, 954, 955, 956, 957, 958, 1010, 1011, 1012, 1013, 1014] (by decide +kernel) (by decide +kernel)
set_option maxRecDepth 20000 in
theorem gL_law_X11_meets : GoodIn wsL_law (wsV RL 37 RX11 yX11_meets wsX11_meets) := goodIn_app (goodIn_of _ (by decide +kernel)) ggL_law_X11_meets
set_option maxRecDepth 20000 in
theorem ggL_law_X12_meets : GoodIn wsL_law wsX12_meets := goodIn_r _ [322, 108, 323, 324, 5, 325, 259, 260, 261, 959, 960, 961, 962, 963, 964, 965, 966, 967, 968, 969, 970, 971, 972, 973, 974, 975, 976, 977, 978, 979, 980, 981, 982, 983, 984, 985, 986, 987, 988, 989, 990, 991, 992, 993, 994, 995, 996, 997, 998, 999, 1000, 1001, 1002, 1003, 1004, 1005, 1006, 1007] (by decide +kernel) (by decide +kernel)
set_option maxRecDepth 20000 in
theorem gL_law_X12_meets : GoodIn wsL_law (wsV RL 41 RX12 yX12_meets wsX12_meets) := goodIn_app (goodIn_of _ (by decide +kernel)) ggL_law_X12_meets
set_option maxRecDepth 20000 in
theorem ggL_law_X11_becomes : GoodIn wsL_law wsX11_becomes := goodIn_r _ [329, 27, 176, 177, 2, 178, 161, 162, 163, 330, 331, 332, 26, 333, 74, 952, 953, 954, 955, 956, 957, 958, 1019, 1020] (by decide +kernel) (by decide +kernel)
set_option maxRecDepth 20000 in
theorem gL_law_X11_becomes : GoodIn wsL_law (wsV RL 42 RX11 yX11_becomes wsX11_becomes) := goodIn_app (goodIn_of _ (by decide +kernel)) ggL_law_X11_becomes
set_option maxRecDepth 20000 in
theorem ggL_law_X12_becomes : GoodIn wsL_law wsX12_becomes := goodIn_r _ [337, 109, 323, 324, 5, 325, 259, 260, 261, 959, 960, 961, 962, 963, 964, 965, 966, 967, 968, 969, 970, 971, 972, 973, 974, 975, 976, 977, 978, 979, 980, 981, 982, 983, 984, 985, 986, 987, 988, 989, 990, 991, 992, 993, 994, 995, 996, 997, 998, 999, 1000, 1001, 1002, 1003, 1004, 1005, 1006, 1007] (by decide +kernel) (by decide +kernel)
set_option maxRecDepth 20000 in
theorem gL_law_X12_becomes : GoodIn wsL_law (wsV RL 46 RX12 yX12_becomes wsX12_becomes) := goodIn_app (goodIn_of _ (by decide +kernel)) ggL_law_X12_becomes
set_option maxRecDepth 20000 in
theorem ggL_law_X11_fits : GoodIn wsL_law wsX11_fits := goodIn_r _ [341, 342, 343, 344, 2, 345, 19, 346, 347, 299, 300, 301, 18, 302, 47, 44, 269, 270, 271, 161, 162, 163, 348, 349, 350, 351, 48, 46, 352, 353, 354, 355, 356, 357, 358, 359, 360, 952, 953, 954, 955, 956, 957, 958, 1030, 1031, 1032, 1033, 1034, 1035, 1036, 1037, 1010, 1011, 1012, 1013, 1014, 1038, 1039, 1040, 1041, 1042, 1043, 1044, 1045, 1046] (by decide +kernel) (by decide +kernel)
set_option maxRecDepth 20000 in
theorem gL_law_X11_fits : GoodIn wsL_law (wsV RL 47 RX11 yX11_fits wsX11_fits) := goodIn_app (goodIn_of _ (by decide +kernel)) ggL_law_X11_fits
set_option maxRecDepth 20000 in
theorem ggL_law_X12_fits : GoodIn wsL_law wsX12_fits := goodIn_r _ [364, 293, 307, 308, 309, 5, 310, 254, 259, 260, 261, 365, 366, 367, 368, 369, 370, 371, 100, 106, 107, 102, 96, 103, 95, 101, 959, 960, 961, 962, 963, 964, 965, 966, 967, 968, 969, 970, 971, 972, 973, 974, 975, 976, 977, 978, 979, 980, 981, 982, 983, 984, 985, 986, 987, 988, 989, 990, 991, 992, 993, 994, 995, 996, 997, 998, 999, 1000, 1001, 1002, 1003, 1004, 1005, 1006, 1007] (by decide +kernel) (by decide +kernel)
set_option maxRecDepth 20000 in
theorem gL_law_X12_fits : GoodIn wsL_law (wsV RL 50 RX12 yX12_fits wsX12_fits) := goodIn_app (goodIn_of _ (by decide +kernel)) ggL_law_X12_fits
set_option maxRecDepth 20000 in
theorem ggL_law_X11_fitting : GoodIn wsL_law wsX11_fitting := goodIn_r _ [375, 342, 343, 344, 2, 345, 19, 346, 347, 299, 300, 301, 18, 302, 47, 44, 269, 270, 271, 161, 162, 163, 348, 349, 350, 351, 48, 46, 352, 353, 376, 377, 378, 952, 953, 954, 955, 956, 957, 958, 1030, 1031, 1032, 1033, 1034, 1035, 1036, 1037, 1010, 1011, 1012, 1013, 1014, 1038, 1039, 1040, 1041, 1042, 1043, 1044, 1045, 1046] (by decide +kernel) (by decide +kernel)
set_option maxRecDepth 20000 in
theorem gL_law_X11_fitting : GoodIn wsL_law (wsV RL 51 RX11 yX11_fitting wsX11_fitting) := goodIn_app (goodIn_of _ (by decide +kernel)) ggL_law_X11_fitting
set_option maxRecDepth 20000 in
theorem ggL_law_X12_fitting : GoodIn wsL_law wsX12_fitting := goodIn_r _ [382, 293, 307, 308, 309, 5, 310, 254, 259, 260, 261, 365, 366, 367, 368, 369, 370, 371, 100, 106, 107, 102, 96, 103, 95, 101, 959, 960, 961, 962, 963, 964, 965, 966, 967, 968, 969, 970, 971, 972, 973, 974, 975, 976, 977, 978, 979, 980, 981, 982, 983, 984, 985, 986, 987, 988, 989, 990, 991, 992, 993, 994, 995, 996, 997, 998, 999, 1000, 1001, 1002, 1003, 1004, 1005, 1006, 1007] (by decide +kernel) (by decide +kernel)
set_option maxRecDepth 20000 in
theorem gL_law_X12_fitting : GoodIn wsL_law (wsV RL 55 RX12 yX12_fitting wsX12_fitting) := goodIn_app (goodIn_of _ (by decide +kernel)) ggL_law_X12_fitting
set_option maxRecDepth 20000 in
theorem ggL_law_X11_row : GoodIn wsL_law wsX11_row := goodIn_r _ [386, 23, 387, 388, 389, 269, 270, 2, 271, 161, 162, 163, 952, 953, 954, 955, 956, 957, 958, 1015, 1016, 1017, 1018, 1027, 1028, 1029] (by decide +kernel) (by decide +kernel)
set_option maxRecDepth 20000 in
theorem gL_law_X11_row : GoodIn wsL_law (wsV RL 56 RX11 yX11_row wsX11_row) := goodIn_app (goodIn_of _ (by decide +kernel)) ggL_law_X11_row
set_option maxRecDepth 20000 in
theorem ggL_law_X12_row : GoodIn wsL_law wsX12_row := goodIn_r _ [393, 394, 395, 365, 366, 5, 367, 259, 260, 261, 959, 960, 961, 962, 963, 964, 965, 966, 967, 968, 969, 970, 971, 972, 973, 974, 975, 976, 977, 978, 979, 980, 981, 982, 983, 984, 985, 986, 987, 988, 989, 990, 991, 992, 993, 994, 995, 996, 997, 998, 999, 1000, 1001, 1002, 1003, 1004, 1005, 1006, 1007] (by decide +kernel) (by decide +kernel)
set_option maxRecDepth 20000 in
theorem gL_law_X12_row : GoodIn wsL_law (wsV RL 59 RX12 yX12_row wsX12_row) := goodIn_app (goodIn_of _ (by decide +kernel)) ggL_law_X12_row
set_option maxRecDepth 20000 in
theorem ggL_law_X11_joins : GoodIn wsL_law wsX11_joins := goodIn_r _ [399, 19, 23, 387, 388, 299, 300, 301, 18, 302, 47, 44, 400, 401, 402, 56, 403, 68, 404, 405, 406, 407, 65, 408, 409, 410, 411, 67, 412, 413, 414, 2, 415, 346, 347, 389, 416, 417, 418, 348, 349, 350, 351, 48, 46, 352, 353, 419, 420, 421, 422, 376, 377, 378, 423, 424, 425, 426, 427, 428, 429, 430, 431, 432, 433, 434, 435, 952, 953, 954, 955, 956, 957, 958, 1015, 1016, 1017, 1018, 1027, 1028, 1029, 1010, 1011, 1012, 1013, 1014, 1030, 1031, 1032, 1033, 1034, 1035, 1036, 1037, 1038, 1039, 1040, 1041, 1042, 1043, 1044, 1045, 1046] (by decide +kernel) (by decide +kernel)
set_option maxRecDepth 20000 in
theorem gL_law_X11_joins : GoodIn wsL_law (wsV RL 60 RX11 yX11_joins wsX11_joins) := goodIn_app (goodIn_of _ (by decide +kernel)) ggL_law_X11_joins
set_option maxRecDepth 20000 in
theorem ggL_law_X12_joins : GoodIn wsL_law wsX12_joins := goodIn_r _ [439, 394, 112, 395, 293, 102, 96, 103, 113, 307, 308, 309, 5, 310, 254, 259, 260, 261, 440, 362, 363, 364, 365, 366, 367, 368, 369, 370, 371, 100, 106, 107, 95, 101, 441, 442, 443, 444, 959, 960, 961, 962, 963, 964, 965, 966, 967, 968, 969, 970, 971, 972, 973, 974, 975, 976, 977, 978, 979, 980, 981, 982, 983, 984, 985, 986, 987, 988, 989, 990, 991, 992, 993, 994, 995, 996, 997, 998, 999, 1000, 1001, 1002, 1003, 1004, 1005, 1006, 1007] (by decide +kernel) (by decide +kernel)
set_option maxRecDepth 20000 in
theorem gL_law_X12_joins : GoodIn wsL_law (wsV RL 63 RX12 yX12_joins wsX12_joins) := goodIn_app (goodIn_of _ (by decide +kernel)) ggL_law_X12_joins
set_option maxRecDepth 20000 in
theorem ggL_law_X11_joined : GoodIn wsL_law wsX11_joined := goodIn_r _ [448, 23, 449, 450, 451, 452, 22, 453, 60, 57, 454, 455, 456, 457, 458, 459, 460, 461, 462, 463, 58, 464, 428, 429, 56, 430, 431, 432, 433, 434, 435, 68, 67, 465, 466, 467, 468, 469, 952, 953, 954, 955, 956, 957, 958, 1015, 1016, 1017, 1018, 1027, 1028, 1029, 1038, 1039, 1040, 1041, 1042, 1043, 1044, 1045, 1046, 1030, 1031, 1032, 1033, 1034, 1035, 1036, 1037] (by decide +kernel) (by decide +kernel)
set_option maxRecDepth 20000 in
theorem gL_law_X11_joined : GoodIn wsL_law (wsV RL 64 RX11 yX11_joined wsX11_joined) := goodIn_app (goodIn_of _ (by decide +kernel)) ggL_law_X11_joined
set_option maxRecDepth 20000 in
theorem ggL_law_X12_joined : GoodIn wsL_law wsX12_joined := goodIn_r _ [473, 474, 394, 112, 113, 104, 101, 102, 103, 96, 95, 475, 476, 477, 5, 478, 114, 441, 442, 443, 444, 959, 960, 961, 962, 963, 964, 965, 966, 967, 968, 969, 970, 971, 972, 973, 974, 975, 976, 977, 978, 979, 980, 981, 982, 983, 984, 985, 986, 987, 988, 989, 990, 991, 992, 993, 994, 995, 996, 997, 998, 999, 1000, 1001, 1002, 1003, 1004, 1005, 1006, 1007] (by decide +kernel) (by decide +kernel)
set_option maxRecDepth 20000 in
theorem gL_law_X12_joined : GoodIn wsL_law (wsV RL 68 RX12 yX12_joined wsX12_joined) := goodIn_app (goodIn_of _ (by decide +kernel)) ggL_law_X12_joined
