theorem ml_in {big ws : List Cond} (ps : List Nat) (h : ws.map some = ps.map (fun i => big[i]?)) : ∀ w ∈ ws, w ∈ big := fun w hw => by
  have h1 : some w ∈ ws.map some := List.mem_map.mpr ⟨w, hw, rfl⟩
  rw [h] at h1
  obtain ⟨i, -, hi⟩ := List.mem_map.mp h1
  exact List.mem_of_getElem? hi
theorem ml_app {big a b : List Cond} (ha : ∀ w ∈ a, w ∈ big) (hb : ∀ w ∈ b, w ∈ big) : ∀ w ∈ a ++ b, w ∈ big := fun w h => (List.mem_append.mp h).elim (ha w) (hb w)
set_option maxRecDepth 20000 in
theorem ml_r1 : ∀ w ∈ wsL_law_r1, w ∈ lw_tbl := ml_in [59, 60, 42, 920, 921, 50, 61, 62, 63, 64, 65, 66, 67, 68, 43, 223, 87, 88, 44, 224, 127, 128, 45, 225] (by decide +kernel)
set_option maxRecDepth 20000 in
theorem ml_r2 : ∀ w ∈ wsL_law_r2, w ∈ lw_tbl := ml_in [177, 178, 47, 226, 194, 195, 49, 227, 228, 229, 70, 71, 72, 86, 73, 77, 90, 91, 92, 93, 97, 95, 101, 104] (by decide +kernel)
set_option maxRecDepth 20000 in
theorem ml_r3 : ∀ w ∈ wsL_law_r3, w ∈ lw_tbl := ml_in [109, 126, 113, 130, 131, 132, 133, 134, 46, 160, 162, 164, 166, 136, 137, 138, 139, 141, 140, 145, 147, 179, 180, 181] (by decide +kernel)
set_option maxRecDepth 20000 in
theorem ml_r4 : ∀ w ∈ wsL_law_r4, w ∈ lw_tbl := ml_in [182, 193, 186, 187, 183, 184, 48, 185, 197, 198, 199, 202, 204, 200, 206, 207, 208, 209, 922, 923, 924, 925, 927, 930] (by decide +kernel)
set_option maxRecDepth 20000 in
theorem ml_r5 : ∀ w ∈ wsL_law_r5, w ∈ lw_tbl := ml_in [931, 932, 933, 934, 935, 937, 938, 939, 940, 941, 942, 943, 944, 945, 946, 947, 950, 951, 952, 954, 956, 957, 619, 958] (by decide +kernel)
set_option maxRecDepth 20000 in
theorem ml_r6 : ∀ w ∈ wsL_law_r6, w ∈ lw_tbl := ml_in [926, 959, 960, 967, 968, 969, 970, 971, 972, 974, 975, 245, 246, 247, 248, 80, 249, 250, 251, 252, 253, 254, 255, 256] (by decide +kernel)
set_option maxRecDepth 20000 in
theorem ml_r7 : ∀ w ∈ wsL_law_r7, w ∈ lw_tbl := ml_in [257, 258, 259, 260, 1075, 1076, 1077, 1078, 928, 1079, 1081, 25, 1082, 261, 262, 263, 264, 265, 266, 267, 1083, 1084, 1085, 1086] (by decide +kernel)
set_option maxRecDepth 20000 in
theorem ml_r8 : ∀ w ∈ wsL_law_r8, w ∈ lw_tbl := ml_in [268, 269, 270, 271, 107, 285, 286, 51, 272, 273, 274, 275, 276, 277, 278, 279, 280, 281, 282, 283, 284, 287, 288, 289] (by decide +kernel)
set_option maxRecDepth 20000 in
theorem ml_r9 : ∀ w ∈ wsL_law_r9, w ∈ lw_tbl := ml_in [290, 329, 334, 339, 75, 79, 307, 313, 317, 323, 320, 291, 292, 293, 294, 295, 296, 297, 298, 300, 301, 302, 52, 303] (by decide +kernel)
set_option maxRecDepth 20000 in
theorem ml_r10 : ∀ w ∈ wsL_law_r10, w ∈ lw_tbl := ml_in [304, 306, 305, 53, 360, 361, 362, 363, 332, 364, 366, 0, 367, 321, 336, 421, 340, 368, 369, 370, 54, 371, 308, 396] (by decide +kernel)
set_option maxRecDepth 20000 in
theorem ml_r11 : ∀ w ∈ wsL_law_r11, w ∈ lw_tbl := ml_in [372, 373, 374, 375, 394, 376, 377, 378, 379, 401, 1087, 1088, 1089, 1090, 929, 1091, 1093, 26, 1094, 1095, 1096, 1097, 380, 381] (by decide +kernel)
set_option maxRecDepth 20000 in
theorem ml_r12 : ∀ w ∈ wsL_law_r12, w ∈ lw_tbl := ml_in [382, 383, 110, 387, 388, 384, 385, 386, 389, 390, 391, 392, 420, 74, 78, 406, 409, 412, 416, 418, 393, 442, 443, 444] (by decide +kernel)
set_option maxRecDepth 20000 in
theorem ml_r13 : ∀ w ∈ wsL_law_r13, w ∈ lw_tbl := ml_in [445, 1098, 1099, 1100, 1101, 936, 446, 447, 448, 449, 325, 450, 451, 452, 453, 1102, 1103, 1104, 1105, 1106, 1108, 27, 1109, 454] (by decide +kernel)
set_option maxRecDepth 20000 in
theorem ml_r14 : ∀ w ∈ wsL_law_r14, w ∈ lw_tbl := ml_in [455, 456, 457, 458, 459, 460, 461, 1110, 1111, 1112, 1113, 1114, 1115, 1116, 462, 463, 464, 465, 466, 467, 468, 469, 1117, 1118] (by decide +kernel)
set_option maxRecDepth 20000 in
theorem ml_r15 : ∀ w ∈ wsL_law_r15, w ∈ lw_tbl := ml_in [1119, 1120, 470, 471, 472, 473, 474, 476, 1, 477, 338, 342, 478, 479, 480, 481, 417, 419, 482, 483, 55, 484, 485, 486] (by decide +kernel)
set_option maxRecDepth 20000 in
theorem ml_r16 : ∀ w ∈ wsL_law_r16, w ∈ lw_tbl := ml_in [487, 1121, 1122, 1123, 1124, 1125, 1126, 1127, 1128, 1130, 28, 1131, 488, 489, 490, 491, 492, 493, 494, 1132, 1133, 1134, 1135, 495] (by decide +kernel)
set_option maxRecDepth 20000 in
theorem ml_r17 : ∀ w ∈ wsL_law_r17, w ∈ lw_tbl := ml_in [496, 497, 498, 161, 152, 165, 1136, 1137, 1138, 1139, 949, 948, 499, 500, 501, 502, 503, 504, 505, 506, 507, 508, 509, 510] (by decide +kernel)
set_option maxRecDepth 20000 in
theorem ml_r18 : ∀ w ∈ wsL_law_r18, w ∈ lw_tbl := ml_in [511, 512, 513, 514, 515, 517, 2, 518, 312, 400, 405, 519, 520, 521, 522, 523, 524, 525, 526, 527, 528, 529, 530, 402] (by decide +kernel)
set_option maxRecDepth 20000 in
theorem ml_r19 : ∀ w ∈ wsL_law_r19, w ∈ lw_tbl := ml_in [531, 532, 533, 534, 1140, 1141, 1142, 1143, 1144, 1145, 1147, 29, 1148, 535, 536, 537, 538, 167, 539, 540, 541, 542, 148, 146] (by decide +kernel)
set_option maxRecDepth 20000 in
theorem ml_r20 : ∀ w ∈ wsL_law_r20, w ∈ lw_tbl := ml_in [395, 407, 142, 309, 543, 545, 3, 546, 547, 548, 549, 550, 551, 397, 1149, 1150, 1151, 1152, 953, 1153, 1155, 30, 1156, 552] (by decide +kernel)
set_option maxRecDepth 20000 in
theorem ml_r21 : ∀ w ∈ wsL_law_r21, w ∈ lw_tbl := ml_in [553, 554, 555, 163, 1157, 1158, 1159, 1160, 556, 557, 558, 559, 560, 1161, 1162, 1163, 1164, 561, 562, 563, 564, 565, 566, 567] (by decide +kernel)
set_option maxRecDepth 20000 in
theorem ml_r22 : ∀ w ∈ wsL_law_r22, w ∈ lw_tbl := ml_in [56, 76, 657, 568, 569, 570, 571, 654, 656, 658, 572, 660, 662, 664, 665, 666, 667, 574, 575, 57, 668, 620, 58, 576] (by decide +kernel)
set_option maxRecDepth 20000 in
theorem ml_r23 : ∀ w ∈ wsL_law_r23, w ∈ lw_tbl := ml_in [577, 578, 579, 580, 583, 585, 588, 589, 581, 590, 591, 592, 593, 594, 595, 587, 622, 623, 624, 625, 627, 630, 633, 635] (by decide +kernel)
set_option maxRecDepth 20000 in
theorem ml_r24 : ∀ w ∈ wsL_law_r24, w ∈ lw_tbl := ml_in [637, 639, 690, 691, 692, 693, 694, 695, 696, 697, 698, 699, 700, 701, 702, 703, 114, 707, 106, 99, 704, 705, 706, 708] (by decide +kernel)
set_option maxRecDepth 20000 in
theorem ml_r25 : ∀ w ∈ wsL_law_r25, w ∈ lw_tbl := ml_in [709, 711, 4, 712, 331, 713, 714, 715, 716, 310, 717, 719, 5, 720, 721, 723, 6, 724, 326, 726, 727, 728, 729, 730] (by decide +kernel)
set_option maxRecDepth 20000 in
theorem ml_r26 : ∀ w ∈ wsL_law_r26, w ∈ lw_tbl := ml_in [731, 732, 734, 7, 735, 335, 111, 102, 315, 413, 737, 738, 739, 740, 399, 408, 411, 741, 742, 744, 8, 745, 746, 748] (by decide +kernel)
set_option maxRecDepth 20000 in
theorem ml_r27 : ∀ w ∈ wsL_law_r27, w ∈ lw_tbl := ml_in [9, 749, 750, 751, 752, 753, 341, 754, 756, 10, 757, 404, 758, 760, 11, 761, 762, 763, 764, 765, 766, 767, 768, 769] (by decide +kernel)
set_option maxRecDepth 20000 in
theorem ml_r28 : ∀ w ∈ wsL_law_r28, w ∈ lw_tbl := ml_in [586, 770, 772, 12, 773, 108, 584, 628, 151, 631, 634, 636, 638, 640, 774, 776, 13, 777, 778, 779, 780, 781, 782, 783] (by decide +kernel)
set_option maxRecDepth 20000 in
theorem ml_r29 : ∀ w ∈ wsL_law_r29, w ∈ lw_tbl := ml_in [784, 786, 14, 787, 788, 790, 15, 791, 792, 794, 16, 795, 796, 798, 17, 799, 327, 311, 100, 800, 801, 802, 803, 804] (by decide +kernel)
set_option maxRecDepth 20000 in
theorem ml_r30 : ∀ w ∈ wsL_law_r30, w ∈ lw_tbl := ml_in [806, 18, 807, 112, 337, 103, 809, 810, 812, 19, 813, 414, 403, 814, 815, 816, 817, 818, 820, 20, 821, 410, 398, 822] (by decide +kernel)
set_option maxRecDepth 20000 in
theorem ml_r31 : ∀ w ∈ wsL_law_r31, w ∈ lw_tbl := ml_in [824, 21, 825, 826, 827, 828, 829, 830, 1165, 1166, 1167, 1168, 1169, 955, 962, 961, 963, 964, 965, 966, 1212, 1170, 1172, 31] (by decide +kernel)
set_option maxRecDepth 20000 in
theorem ml_r32 : ∀ w ∈ wsL_law_r32, w ∈ lw_tbl := ml_in [1173, 1174, 1176, 32, 1177, 1178, 1179, 1180, 1181, 1183, 33, 1184, 1185, 1187, 34, 1188, 1189, 1191, 35, 1192, 1193, 1195, 36, 1196] (by decide +kernel)
set_option maxRecDepth 20000 in
theorem ml_r33 : ∀ w ∈ wsL_law_r33, w ∈ lw_tbl := ml_in [1197, 1199, 37, 1200, 1201, 1203, 38, 1204, 1205, 1206, 1207, 1208, 1209, 1210, 1211, 1213, 1215, 39, 1216, 831, 832, 833, 834, 655] (by decide +kernel)
set_option maxRecDepth 20000 in
theorem ml_r34 : ∀ w ∈ wsL_law_r34, w ∈ lw_tbl := ml_in [659, 663, 1217, 1218, 1219, 1220, 835, 836, 837, 838, 632, 629, 839, 841, 22, 842, 661, 1221, 1222, 1223, 1224, 1225, 1227, 40] (by decide +kernel)
set_option maxRecDepth 20000 in
theorem ml_r35 : ∀ w ∈ wsL_law_r35, w ∈ lw_tbl := ml_in [1228, 843, 844, 845, 846, 333, 847, 1229, 1230, 1231, 1232, 848, 849, 850, 851, 422, 852, 1233, 1234, 1235, 1236, 853, 854, 855] (by decide +kernel)
set_option maxRecDepth 20000 in
theorem ml_r36 : ∀ w ∈ wsL_law_r36, w ∈ lw_tbl := ml_in [856, 857, 858, 859, 860, 861, 150, 144, 314, 862, 863, 865, 23, 866, 867, 869, 24, 870, 871, 872, 873, 874, 1237, 1238] (by decide +kernel)
set_option maxRecDepth 20000 in
theorem ml_r37 : ∀ w ∈ wsL_law_r37, w ∈ lw_tbl := ml_in [1239, 1240, 1241, 1242, 1243, 876, 877, 878, 879, 205, 880, 881, 882, 883, 105, 98, 324, 884, 885, 886, 887, 888, 149, 143] (by decide +kernel)
set_option maxRecDepth 20000 in
theorem ml_r38 : ∀ w ∈ wsL_law_r38, w ∈ lw_tbl := ml_in [318, 330, 889, 890, 891, 1244, 1245, 1246, 1247, 973, 892, 893, 894, 895, 896, 897, 898, 899, 1248, 1249, 1250, 1251, 900, 901] (by decide +kernel)
set_option maxRecDepth 20000 in
theorem ml_r39 : ∀ w ∈ wsL_law_r39, w ∈ lw_tbl := ml_in [902, 903, 1252, 1253, 1254, 1255, 904, 905, 906, 907, 203, 1256, 1257, 1258, 1259, 908, 909, 910, 911, 316, 319, 322, 1260, 1261] (by decide +kernel)
set_option maxRecDepth 20000 in
theorem ml_r40 : ∀ w ∈ wsL_law_r40, w ∈ lw_tbl := ml_in [1262, 1263, 912, 913, 914, 915, 916, 917, 918, 919, 328, 415, 1264, 1265, 1266, 1267] (by decide +kernel)
set_option maxRecDepth 20000 in
theorem inX11 : ∀ w ∈ wsX110, w ∈ lw_tbl := ml_in [230, 232, 234, 236, 238, 240, 242] (by decide +kernel)
set_option maxRecDepth 20000 in
theorem inX12 : ∀ w ∈ wsX120, w ∈ lw_tbl := ml_in [976, 978, 980, 982, 984, 986, 988, 990, 992, 994, 996, 998, 1000, 1002, 1004, 1006, 1008, 1010, 1012, 1014, 1016, 1018, 1020, 1022, 1024, 1026, 1028, 1030, 1032, 1034, 1036, 1038, 1040, 1042, 1044, 1046, 1048, 1050, 1052, 1054, 1056, 1058, 1060, 1062, 1064, 1066, 1068, 1070, 1072] (by decide +kernel)
set_option maxRecDepth 20000 in
theorem inX8 : ∀ w ∈ wsX80, w ∈ lw_tbl := ml_in [81, 83] (by decide +kernel)
set_option maxRecDepth 20000 in
theorem inX9 : ∀ w ∈ wsX90, w ∈ lw_tbl := ml_in [115, 117, 119, 121, 123] (by decide +kernel)
set_option maxRecDepth 20000 in
theorem inX6 : ∀ w ∈ wsX60, w ∈ lw_tbl := ml_in [168, 170, 172, 174] (by decide +kernel)
set_option maxRecDepth 20000 in
theorem inX10 : ∀ w ∈ wsX100, w ∈ lw_tbl := ml_in [188, 190] (by decide +kernel)
set_option maxRecDepth 20000 in
theorem inX1 : ∀ w ∈ wsX10, w ∈ lw_tbl := ml_in [210, 212, 214, 216, 218, 220] (by decide +kernel)
set_option maxRecDepth 20000 in
theorem inX0 : ∀ w ∈ wsX00, w ∈ lw_tbl := ml_in [153, 155, 157] (by decide +kernel)
set_option maxRecDepth 20000 in
theorem inX2 : ∀ w ∈ wsX20, w ∈ lw_tbl := ml_in [343, 345, 347, 349, 351, 353, 355, 357] (by decide +kernel)
set_option maxRecDepth 20000 in
theorem inX7 : ∀ w ∈ wsX70, w ∈ lw_tbl := ml_in [423, 425, 427, 429, 431, 433, 435, 437, 439] (by decide +kernel)
set_option maxRecDepth 20000 in
theorem inX4 : ∀ w ∈ wsX40, w ∈ lw_tbl := ml_in [669, 671, 673, 675, 677, 679, 681, 683, 685, 687] (by decide +kernel)
set_option maxRecDepth 20000 in
theorem inX3 : ∀ w ∈ wsX30, w ∈ lw_tbl := ml_in [596, 598, 600, 602, 604, 606, 608, 610, 612, 614, 616] (by decide +kernel)
set_option maxRecDepth 20000 in
theorem inX5 : ∀ w ∈ wsX50, w ∈ lw_tbl := ml_in [641, 643, 645, 647, 649, 651] (by decide +kernel)
set_option maxRecDepth 20000 in
theorem wsL_law_in : ∀ w ∈ wsL_law, w ∈ lw_tbl := ml_app (ml_app (ml_app (ml_app (ml_app (ml_app (ml_app (ml_app (ml_app (ml_app (ml_app (ml_app (ml_app (ml_app (ml_app ml_r1 (ml_app ml_r2 (ml_app ml_r3 (ml_app ml_r4 (ml_app ml_r5 (ml_app ml_r6 (ml_app ml_r7 (ml_app ml_r8 (ml_app ml_r9 (ml_app ml_r10 (ml_app ml_r11 (ml_app ml_r12 (ml_app ml_r13 (ml_app ml_r14 (ml_app ml_r15 (ml_app ml_r16 (ml_app ml_r17 (ml_app ml_r18 (ml_app ml_r19 (ml_app ml_r20 (ml_app ml_r21 (ml_app ml_r22 (ml_app ml_r23 (ml_app ml_r24 (ml_app ml_r25 (ml_app ml_r26 (ml_app ml_r27 (ml_app ml_r28 (ml_app ml_r29 (ml_app ml_r30 (ml_app ml_r31 (ml_app ml_r32 (ml_app ml_r33 (ml_app ml_r34 (ml_app ml_r35 (ml_app ml_r36 (ml_app ml_r37 (ml_app ml_r38 (ml_app ml_r39 ml_r40))))))))))))))))))))))))))))))))))))))) inX11) inX12) inX8) inX9) inX6) inX10) inX1) inX0) inX2) inX7) inX4) inX3) inX5) (fun _ h => absurd h List.not_mem_nil)
