set_option maxRecDepth 20000 in
theorem ggL_law_X11_letter : GoodIn wsL_law wsX11_letter := goodIn_r _ [482, 23, 449, 483, 952, 953, 954, 955, 956, 957, 958, 1015, 1016, 1017, 1018] (by decide +kernel) (by decide +kernel)
set_option maxRecDepth 20000 in
theorem gL_law_X11_letter : GoodIn wsL_law (wsV RL 69 RX11 yX11_letter wsX11_letter) := goodIn_app (goodIn_of _ (by decide +kernel)) ggL_law_X11_letter
set_option maxRecDepth 20000 in
theorem ggL_law_X12_letter : GoodIn wsL_law wsX12_letter := goodIn_r _ [487, 474, 114, 259, 260, 5, 261, 959, 960, 961, 962, 963, 964, 965, 966, 967, 968, 969, 970, 971, 972, 973, 974, 975, 976, 977, 978, 979, 980, 981, 982, 983, 984, 985, 986, 987, 988, 989, 990, 991, 992, 993, 994, 995, 996, 997, 998, 999, 1000, 1001, 1002, 1003, 1004, 1005, 1006, 1007] (by decide +kernel) (by decide +kernel)
set_option maxRecDepth 20000 in
theorem gL_law_X12_letter : GoodIn wsL_law (wsV RL 72 RX12 yX12_letter wsX12_letter) := goodIn_app (goodIn_of _ (by decide +kernel)) ggL_law_X12_letter
set_option maxRecDepth 20000 in
theorem ggL_law_X11_back : GoodIn wsL_law wsX11_back := goodIn_r _ [491, 15, 23, 449, 483, 135, 136, 137, 138, 14, 139, 39, 492, 145, 146, 147, 38, 952, 953, 954, 955, 956, 957, 958, 1015, 1016, 1017, 1018, 1008, 1009] (by decide +kernel) (by decide +kernel)
set_option maxRecDepth 20000 in
theorem gL_law_X11_back : GoodIn wsL_law (wsV RL 73 RX11 yX11_back wsX11_back) := goodIn_app (goodIn_of _ (by decide +kernel)) ggL_law_X11_back
set_option maxRecDepth 20000 in
theorem ggL_law_X12_back : GoodIn wsL_law wsX12_back := goodIn_r _ [496, 152, 474, 94, 114, 959, 960, 961, 962, 963, 964, 965, 966, 967, 968, 969, 970, 971, 972, 973, 974, 975, 976, 977, 978, 979, 980, 981, 982, 983, 984, 985, 986, 987, 988, 989, 990, 991, 992, 993, 994, 995, 996, 997, 998, 999, 1000, 1001, 1002, 1003, 1004, 1005, 1006, 1007] (by decide +kernel) (by decide +kernel)
set_option maxRecDepth 20000 in
theorem gL_law_X12_back : GoodIn wsL_law (wsV RL 76 RX12 yX12_back wsX12_back) := goodIn_app (goodIn_of _ (by decide +kernel)) ggL_law_X12_back
set_option maxRecDepth 20000 in
theorem ggL_law_X11_parted : GoodIn wsL_law wsX11_parted := goodIn_r _ [790, 32, 501, 791, 506, 792, 793, 952, 953, 954, 955, 956, 957, 958, 1047, 1048, 1049, 1050, 1051, 1052, 1053, 1054, 1055, 1056] (by decide +kernel) (by decide +kernel)
set_option maxRecDepth 20000 in
theorem gL_law_X11_parted : GoodIn wsL_law (wsV RL 82 RX11 yX11_parted wsX11_parted) := goodIn_app (goodIn_of _ (by decide +kernel)) ggL_law_X11_parted
set_option maxRecDepth 20000 in
theorem ggL_law_X12_parted : GoodIn wsL_law wsX12_parted := goodIn_r _ [797, 734, 732, 736, 737, 738, 739, 959, 960, 961, 962, 963, 964, 965, 966, 967, 968, 969, 970, 971, 972, 973, 974, 975, 976, 977, 978, 979, 980, 981, 982, 983, 984, 985, 986, 987, 988, 989, 990, 991, 992, 993, 994, 995, 996, 997, 998, 999, 1000, 1001, 1002, 1003, 1004, 1005, 1006, 1007] (by decide +kernel) (by decide +kernel)
set_option maxRecDepth 20000 in
theorem gL_law_X12_parted : GoodIn wsL_law (wsV RL 85 RX12 yX12_parted wsX12_parted) := goodIn_app (goodIn_of _ (by decide +kernel)) ggL_law_X12_parted
set_option maxRecDepth 20000 in
theorem ggL_law_X11_parting : GoodIn wsL_law wsX11_parting := goodIn_r _ [801, 802, 803, 388, 804, 805, 806, 2, 807, 32, 793, 808, 1068, 1069, 1070, 1071, 1072, 1073, 1027, 1028, 1029, 952, 953, 954, 955, 956, 957, 958, 1047, 1048, 1049, 1050, 1051, 1052, 1053, 1054, 1055, 1056] (by decide +kernel) (by decide +kernel)
set_option maxRecDepth 20000 in
theorem gL_law_X11_parting : GoodIn wsL_law (wsV RL 86 RX11 yX11_parting wsX11_parting) := goodIn_app (goodIn_of _ (by decide +kernel)) ggL_law_X11_parting
set_option maxRecDepth 20000 in
theorem ggL_law_X12_parting : GoodIn wsL_law wsX12_parting := goodIn_r _ [812, 123, 124, 813, 814, 815, 5, 816, 734, 739, 259, 260, 261, 959, 960, 961, 962, 963, 964, 965, 966, 967, 968, 969, 970, 971, 972, 973, 974, 975, 976, 977, 978, 979, 980, 981, 982, 983, 984, 985, 986, 987, 988, 989, 990, 991, 992, 993, 994, 995, 996, 997, 998, 999, 1000, 1001, 1002, 1003, 1004, 1005, 1006, 1007] (by decide +kernel) (by decide +kernel)
set_option maxRecDepth 20000 in
theorem gL_law_X12_parting : GoodIn wsL_law (wsV RL 89 RX12 yX12_parting wsX12_parting) := goodIn_app (goodIn_of _ (by decide +kernel)) ggL_law_X12_parting
set_option maxRecDepth 20000 in
theorem ggL_law_X11_formOf : GoodIn wsL_law wsX11_formOf := goodIn_r _ [820, 803, 821, 804, 805, 806, 2, 807, 32, 793, 808, 822, 405, 406, 56, 407, 68, 65, 1068, 1069, 1070, 1071, 1072, 1073, 1030, 1031, 1032, 1033, 1034, 1035, 1036, 1037, 952, 953, 954, 955, 956, 957, 958, 1047, 1048, 1049, 1050, 1051, 1052, 1053, 1054, 1055, 1056, 1027, 1028, 1029] (by decide +kernel) (by decide +kernel)
set_option maxRecDepth 20000 in
theorem gL_law_X11_formOf : GoodIn wsL_law (wsV RL 90 RX11 yX11_formOf wsX11_formOf) := goodIn_app (goodIn_of _ (by decide +kernel)) ggL_law_X11_formOf
set_option maxRecDepth 20000 in
theorem ggL_law_X12_formOf : GoodIn wsL_law wsX12_formOf := goodIn_r _ [826, 124, 125, 813, 814, 815, 5, 816, 734, 739, 259, 260, 261, 959, 960, 961, 962, 963, 964, 965, 966, 967, 968, 969, 970, 971, 972, 973, 974, 975, 976, 977, 978, 979, 980, 981, 982, 983, 984, 985, 986, 987, 988, 989, 990, 991, 992, 993, 994, 995, 996, 997, 998, 999, 1000, 1001, 1002, 1003, 1004, 1005, 1006, 1007] (by decide +kernel) (by decide +kernel)
set_option maxRecDepth 20000 in
theorem gL_law_X12_formOf : GoodIn wsL_law (wsV RL 93 RX12 yX12_formOf wsX12_formOf) := goodIn_app (goodIn_of _ (by decide +kernel)) ggL_law_X12_formOf
set_option maxRecDepth 20000 in
theorem ggL_law_X11_ruleOf : GoodIn wsL_law wsX11_ruleOf := goodIn_r _ [830, 803, 831, 804, 805, 806, 2, 807, 32, 793, 808, 832, 433, 434, 56, 435, 68, 67, 1068, 1069, 1070, 1071, 1072, 1073, 1038, 1039, 1040, 1041, 1042, 1043, 1044, 1045, 1046, 952, 953, 954, 955, 956, 957, 958, 1047, 1048, 1049, 1050, 1051, 1052, 1053, 1054, 1055, 1056, 1027, 1028, 1029] (by decide +kernel) (by decide +kernel)
set_option maxRecDepth 20000 in
theorem gL_law_X11_ruleOf : GoodIn wsL_law (wsV RL 94 RX11 yX11_ruleOf wsX11_ruleOf) := goodIn_app (goodIn_of _ (by decide +kernel)) ggL_law_X11_ruleOf
set_option maxRecDepth 20000 in
theorem ggL_law_X12_ruleOf : GoodIn wsL_law wsX12_ruleOf := goodIn_r _ [836, 124, 126, 813, 814, 815, 5, 816, 734, 739, 259, 260, 261, 959, 960, 961, 962, 963, 964, 965, 966, 967, 968, 969, 970, 971, 972, 973, 974, 975, 976, 977, 978, 979, 980, 981, 982, 983, 984, 985, 986, 987, 988, 989, 990, 991, 992, 993, 994, 995, 996, 997, 998, 999, 1000, 1001, 1002, 1003, 1004, 1005, 1006, 1007] (by decide +kernel) (by decide +kernel)
set_option maxRecDepth 20000 in
theorem gL_law_X12_ruleOf : GoodIn wsL_law (wsV RL 97 RX12 yX12_ruleOf wsX12_ruleOf) := goodIn_app (goodIn_of _ (by decide +kernel)) ggL_law_X12_ruleOf
set_option maxRecDepth 20000 in
theorem ggL_law_X11_trees : GoodIn wsL_law wsX11_trees := goodIn_r _ [840, 501, 27, 803, 804, 805, 806, 2, 807, 32, 793, 808, 176, 177, 178, 161, 162, 163, 841, 842, 843, 26, 844, 75, 845, 118, 846, 847, 848, 849, 573, 78, 574, 850, 851, 852, 853, 854, 855, 856, 857, 74, 858, 859, 860, 861, 595, 596, 597, 598, 599, 214, 600, 952, 953, 954, 955, 956, 957, 958, 1068, 1069, 1070, 1071, 1072, 1073, 1047, 1048, 1049, 1050, 1051, 1052, 1053, 1054, 1055, 1056, 1019, 1020, 1027, 1028, 1029, 1030, 1031, 1032, 1033, 1034, 1035, 1036, 1037] (by decide +kernel) (by decide +kernel)
set_option maxRecDepth 20000 in
theorem gL_law_X11_trees : GoodIn wsL_law (wsV RL 98 RX11 yX11_trees wsX11_trees) := goodIn_app (goodIn_of _ (by decide +kernel)) ggL_law_X11_trees
set_option maxRecDepth 20000 in
theorem ggL_law_X12_trees : GoodIn wsL_law wsX12_trees := goodIn_r _ [865, 732, 124, 128, 97, 125, 109, 813, 814, 815, 5, 816, 734, 739, 259, 260, 261, 323, 324, 325, 866, 867, 868, 779, 776, 777, 778, 959, 960, 961, 962, 963, 964, 965, 966, 967, 968, 969, 970, 971, 972, 973, 974, 975, 976, 977, 978, 979, 980, 981, 982, 983, 984, 985, 986, 987, 988, 989, 990, 991, 992, 993, 994, 995, 996, 997, 998, 999, 1000, 1001, 1002, 1003, 1004, 1005, 1006, 1007] (by decide +kernel) (by decide +kernel)
set_option maxRecDepth 20000 in
theorem gL_law_X12_trees : GoodIn wsL_law (wsV RL 102 RX12 yX12_trees wsX12_trees) := goodIn_app (goodIn_of _ (by decide +kernel)) ggL_law_X12_trees
set_option maxRecDepth 20000 in
theorem ggL_law_X11_choose : GoodIn wsL_law wsX11_choose := goodIn_r _ [872, 31, 19, 803, 33, 873, 804, 805, 806, 2, 807, 32, 793, 808, 874, 875, 876, 30, 877, 84, 89, 878, 86, 879, 880, 88, 83, 87, 881, 217, 218, 219, 882, 883, 884, 885, 886, 887, 888, 889, 890, 891, 214, 892, 952, 953, 954, 955, 956, 957, 958, 1068, 1069, 1070, 1071, 1072, 1073, 1021, 1022, 1023, 1024, 1025, 1026, 1047, 1048, 1049, 1050, 1051, 1052, 1053, 1054, 1055, 1056, 1010, 1011, 1012, 1013, 1014, 1030, 1031, 1032, 1033, 1034, 1035, 1036, 1037, 1027, 1028, 1029] (by decide +kernel) (by decide +kernel)
set_option maxRecDepth 20000 in
theorem gL_law_X11_choose : GoodIn wsL_law (wsV RL 103 RX11 yX11_choose wsX11_choose) := goodIn_app (goodIn_of _ (by decide +kernel)) ggL_law_X11_choose
set_option maxRecDepth 20000 in
theorem ggL_law_X12_choose : GoodIn wsL_law wsX12_choose := goodIn_r _ [896, 897, 130, 129, 99, 110, 254, 124, 125, 98, 111, 813, 814, 815, 5, 816, 734, 739, 259, 260, 261, 959, 960, 961, 962, 963, 964, 965, 966, 967, 968, 969, 970, 971, 972, 973, 974, 975, 976, 977, 978, 979, 980, 981, 982, 983, 984, 985, 986, 987, 988, 989, 990, 991, 992, 993, 994, 995, 996, 997, 998, 999, 1000, 1001, 1002, 1003, 1004, 1005, 1006, 1007] (by decide +kernel) (by decide +kernel)
set_option maxRecDepth 20000 in
theorem gL_law_X12_choose : GoodIn wsL_law (wsV RL 106 RX12 yX12_choose wsX12_choose) := goodIn_app (goodIn_of _ (by decide +kernel)) ggL_law_X12_choose
set_option maxRecDepth 20000 in
theorem ggL_law_X11_undo : GoodIn wsL_law wsX11_undo := goodIn_r _ [901, 31, 19, 902, 903, 904, 30, 905, 84, 89, 88, 878, 879, 86, 880, 87, 83, 881, 217, 218, 219, 952, 953, 954, 955, 956, 957, 958, 1021, 1022, 1023, 1024, 1025, 1026, 1010, 1011, 1012, 1013, 1014, 1030, 1031, 1032, 1033, 1034, 1035, 1036, 1037] (by decide +kernel) (by decide +kernel)
set_option maxRecDepth 20000 in
theorem gL_law_X11_undo : GoodIn wsL_law (wsV RL 107 RX11 yX11_undo wsX11_undo) := goodIn_app (goodIn_of _ (by decide +kernel)) ggL_law_X11_undo
set_option maxRecDepth 20000 in
theorem ggL_law_X12_undo : GoodIn wsL_law wsX12_undo := goodIn_r _ [909, 897, 129, 99, 130, 110, 959, 960, 961, 962, 963, 964, 965, 966, 967, 968, 969, 970, 971, 972, 973, 974, 975, 976, 977, 978, 979, 980, 981, 982, 983, 984, 985, 986, 987, 988, 989, 990, 991, 992, 993, 994, 995, 996, 997, 998, 999, 1000, 1001, 1002, 1003, 1004, 1005, 1006, 1007] (by decide +kernel) (by decide +kernel)
set_option maxRecDepth 20000 in
theorem gL_law_X12_undo : GoodIn wsL_law (wsV RL 111 RX12 yX12_undo wsX12_undo) := goodIn_app (goodIn_of _ (by decide +kernel)) ggL_law_X12_undo
set_option maxRecDepth 20000 in
theorem ggL_law_X11_step : GoodIn wsL_law wsX11_step := goodIn_r _ [913, 33, 161, 162, 2, 163, 952, 953, 954, 955, 956, 957, 958] (by decide +kernel) (by decide +kernel)
set_option maxRecDepth 20000 in
theorem gL_law_X11_step : GoodIn wsL_law (wsV RL 112 RX11 yX11_step wsX11_step) := goodIn_app (goodIn_of _ (by decide +kernel)) ggL_law_X11_step
set_option maxRecDepth 20000 in
theorem ggL_law_X12_step : GoodIn wsL_law wsX12_step := goodIn_r _ [917, 111, 259, 260, 5, 261, 959, 960, 961, 962, 963, 964, 965, 966, 967, 968, 969, 970, 971, 972, 973, 974, 975, 976, 977, 978, 979, 980, 981, 982, 983, 984, 985, 986, 987, 988, 989, 990, 991, 992, 993, 994, 995, 996, 997, 998, 999, 1000, 1001, 1002, 1003, 1004, 1005, 1006, 1007] (by decide +kernel) (by decide +kernel)
set_option maxRecDepth 20000 in
theorem gL_law_X12_step : GoodIn wsL_law (wsV RL 115 RX12 yX12_step wsX12_step) := goodIn_app (goodIn_of _ (by decide +kernel)) ggL_law_X12_step
set_option maxRecDepth 20000 in
theorem ggL_law_X11_uses : GoodIn wsL_law wsX11_uses := goodIn_r _ [921, 31, 922, 179, 180, 2, 181, 161, 162, 163, 952, 953, 954, 955, 956, 957, 958, 1021, 1022, 1023, 1024, 1025, 1026] (by decide +kernel) (by decide +kernel)
set_option maxRecDepth 20000 in
theorem gL_law_X11_uses : GoodIn wsL_law (wsV RL 116 RX11 yX11_uses wsX11_uses) := goodIn_app (goodIn_of _ (by decide +kernel)) ggL_law_X11_uses
set_option maxRecDepth 20000 in
theorem ggL_law_X12_uses : GoodIn wsL_law wsX12_uses := goodIn_r _ [926, 110, 259, 260, 5, 261, 959, 960, 961, 962, 963, 964, 965, 966, 967, 968, 969, 970, 971, 972, 973, 974, 975, 976, 977, 978, 979, 980, 981, 982, 983, 984, 985, 986, 987, 988, 989, 990, 991, 992, 993, 994, 995, 996, 997, 998, 999, 1000, 1001, 1002, 1003, 1004, 1005, 1006, 1007] (by decide +kernel) (by decide +kernel)
set_option maxRecDepth 20000 in
theorem gL_law_X12_uses : GoodIn wsL_law (wsV RL 119 RX12 yX12_uses wsX12_uses) := goodIn_app (goodIn_of _ (by decide +kernel)) ggL_law_X12_uses
set_option maxRecDepth 20000 in
theorem ggL_law_X11_about : GoodIn wsL_law wsX11_about := goodIn_r _ [930, 19, 931, 932, 298, 933, 416, 299, 300, 301, 18, 302, 47, 44, 952, 953, 954, 955, 956, 957, 958, 1030, 1031, 1032, 1033, 1034, 1035, 1036, 1037, 1010, 1011, 1012, 1013, 1014] (by decide +kernel) (by decide +kernel)
set_option maxRecDepth 20000 in
theorem gL_law_X11_about : GoodIn wsL_law (wsV RL 120 RX11 yX11_about wsX11_about) := goodIn_app (goodIn_of _ (by decide +kernel)) ggL_law_X11_about
set_option maxRecDepth 20000 in
theorem ggL_law_X12_about : GoodIn wsL_law wsX12_about := goodIn_r _ [937, 97, 98, 99, 100, 96, 307, 308, 309, 5, 310, 254, 259, 260, 261, 959, 960, 961, 962, 963, 964, 965, 966, 967, 968, 969, 970, 971, 972, 973, 974, 975, 976, 977, 978, 979, 980, 981, 982, 983, 984, 985, 986, 987, 988, 989, 990, 991, 992, 993, 994, 995, 996, 997, 998, 999, 1000, 1001, 1002, 1003, 1004, 1005, 1006, 1007] (by decide +kernel) (by decide +kernel)
set_option maxRecDepth 20000 in
theorem gL_law_X12_about : GoodIn wsL_law (wsV RL 123 RX12 yX12_about wsX12_about) := goodIn_app (goodIn_of _ (by decide +kernel)) ggL_law_X12_about
set_option maxRecDepth 20000 in
theorem ggL_law_X11_count : GoodIn wsL_law wsX11_count := goodIn_r _ [941, 19, 172, 266, 15, 135, 23, 449, 387, 388, 31, 873, 33, 942, 943, 944, 56, 945, 68, 65, 946, 67, 947, 952, 953, 954, 955, 956, 957, 958, 1010, 1011, 1012, 1013, 1014, 1008, 1009, 1015, 1016, 1017, 1018, 1027, 1028, 1029, 1021, 1022, 1023, 1024, 1025, 1026, 1030, 1031, 1032, 1033, 1034, 1035, 1036, 1037, 1038, 1039, 1040, 1041, 1042, 1043, 1044, 1045, 1046] (by decide +kernel) (by decide +kernel)
set_option maxRecDepth 20000 in
theorem gL_law_X11_count : GoodIn wsL_law (wsV RL 124 RX11 yX11_count wsX11_count) := goodIn_app (goodIn_of _ (by decide +kernel)) ggL_law_X11_count
set_option maxRecDepth 20000 in
theorem ggL_law_X12_count : GoodIn wsL_law wsX12_count := goodIn_r _ [951, 254, 293, 152, 474, 394, 897, 111, 99, 112, 113, 105, 959, 960, 961, 962, 963, 964, 965, 966, 967, 968, 969, 970, 971, 972, 973, 974, 975, 976, 977, 978, 979, 980, 981, 982, 983, 984, 985, 986, 987, 988, 989, 990, 991, 992, 993, 994, 995, 996, 997, 998, 999, 1000, 1001, 1002, 1003, 1004, 1005, 1006, 1007] (by decide +kernel) (by decide +kernel)
set_option maxRecDepth 20000 in
theorem gL_law_X12_count : GoodIn wsL_law (wsV RL 127 RX12 yX12_count wsX12_count) := goodIn_app (goodIn_of _ (by decide +kernel)) ggL_law_X12_count
