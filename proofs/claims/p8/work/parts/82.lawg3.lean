theorem gp_cons {big a : List Cond} {c : Cond} (h0 : GoodIn big [c]) (ha : GoodIn big a) : GoodIn big (c :: a) := fun w h => (List.mem_cons.mp h).elim (fun e => h0 w (List.mem_singleton.mpr e)) (ha w)
set_option maxRecDepth 20000 in
theorem gp_X11_part_c : GoodIn wsL_law [.code yX11_part cX11_part 4 (some .long)] := goodIn_r _ [500] (by decide +kernel) (by decide +kernel)
set_option maxRecDepth 20000 in
theorem gp_wsX11_part_r1 : GoodIn wsL_law wsX11_part_r1 := goodIn_r _ [15, 135, 501, 32, 502, 503, 504, 19, 505, 506, 161, 162, 2, 163, 185, 186, 187, 14, 188, 39, 38, 269, 270, 271] (by decide +kernel) (by decide +kernel)
set_option maxRecDepth 20000 in
theorem gp_wsX11_part_r2 : GoodIn wsL_law wsX11_part_r2 := goodIn_r _ [507, 508, 509, 510, 10, 11, 511, 512, 513, 514, 515, 516, 517, 73, 518, 519, 520, 521, 522, 523, 524, 525, 526, 527] (by decide +kernel) (by decide +kernel)
set_option maxRecDepth 20000 in
theorem gp_wsX11_part_r3 : GoodIn wsL_law wsX11_part_r3 := goodIn_r _ [528, 529, 530, 531, 532, 533, 37, 534, 118, 535, 536, 537, 538, 539, 540, 541, 49, 542, 543, 544, 545, 546, 547, 55] (by decide +kernel) (by decide +kernel)
set_option maxRecDepth 20000 in
theorem gp_wsX11_part_r4 : GoodIn wsL_law wsX11_part_r4 := goodIn_r _ [56, 548, 549, 550, 551, 552, 553, 61, 62, 63, 64, 65, 66, 67, 68, 554, 555, 556, 557, 558, 559, 560, 561, 562] (by decide +kernel) (by decide +kernel)
set_option maxRecDepth 20000 in
theorem gp_wsX11_part_r5 : GoodIn wsL_law wsX11_part_r5 := goodIn_r _ [213, 214, 215, 563, 349, 350, 18, 351, 48, 46, 352, 353, 564, 565, 566, 567, 568, 569, 570, 571, 572, 573, 78, 574] (by decide +kernel) (by decide +kernel)
set_option maxRecDepth 20000 in
theorem gp_wsX11_part_r6 : GoodIn wsL_law wsX11_part_r6 := goodIn_r _ [575, 77, 79, 576, 577, 578, 579, 580, 581, 582, 583, 584, 585, 586, 587, 588, 589, 590, 591, 592, 593, 594, 595, 596] (by decide +kernel) (by decide +kernel)
set_option maxRecDepth 20000 in
theorem gp_wsX11_part_r7 : GoodIn wsL_law wsX11_part_r7 := goodIn_r _ [597, 598, 599, 600, 601, 602, 603, 604, 605, 606, 607, 608, 609, 377, 378, 610, 611, 612, 613, 614, 615, 616, 617, 241] (by decide +kernel) (by decide +kernel)
set_option maxRecDepth 20000 in
theorem gp_wsX11_part_r8 : GoodIn wsL_law wsX11_part_r8 := goodIn_r _ [242, 236, 243, 244, 618, 619, 620, 621, 622, 623, 624, 625, 626, 627, 628, 629, 630, 631, 632, 633, 634, 635, 636, 637] (by decide +kernel) (by decide +kernel)
set_option maxRecDepth 20000 in
theorem gp_wsX11_part_r9 : GoodIn wsL_law wsX11_part_r9 := goodIn_r _ [638, 639, 640, 641, 642, 643, 50, 644, 645, 646, 647, 648, 649, 650, 651, 652, 653, 654, 655, 656, 657, 658, 659, 660] (by decide +kernel) (by decide +kernel)
set_option maxRecDepth 20000 in
theorem gp_wsX11_part_r10 : GoodIn wsL_law wsX11_part_r10 := goodIn_r _ [661, 662, 663, 664, 665, 666, 667, 668, 669, 670, 300, 301, 302, 47, 44, 671, 409, 410, 411, 672, 673, 674, 675, 676] (by decide +kernel) (by decide +kernel)
set_option maxRecDepth 20000 in
theorem gp_wsX11_part_r11 : GoodIn wsL_law wsX11_part_r11 := goodIn_r _ [677, 678, 679, 680, 681, 682, 683, 684, 685, 686, 687, 688, 689, 690, 691, 401, 402, 403, 404, 405, 406, 407, 692, 424] (by decide +kernel) (by decide +kernel)
set_option maxRecDepth 20000 in
theorem gp_wsX11_part_r12 : GoodIn wsL_law wsX11_part_r12 := goodIn_r _ [425, 426, 427, 428, 429, 430, 431, 432, 433, 434, 435, 693, 694, 695, 696, 697, 698, 699, 700, 701, 702, 703, 704, 705] (by decide +kernel) (by decide +kernel)
set_option maxRecDepth 20000 in
theorem gp_wsX11_part_r13 : GoodIn wsL_law wsX11_part_r13 := goodIn_r _ [706, 707, 708, 709, 710, 711, 712, 713, 714, 715, 716, 717, 718, 719, 720, 721, 722, 723, 724, 725, 726, 727, 420, 421] (by decide +kernel) (by decide +kernel)
set_option maxRecDepth 20000 in
theorem gp_wsX11_part_r14 : GoodIn wsL_law wsX11_part_r14 := goodIn_r _ [422] (by decide +kernel) (by decide +kernel)
set_option maxRecDepth 20000 in
theorem gp_wsX110 : GoodIn wsL_law wsX110 := goodIn_r _ [952, 953, 954, 955, 956, 957, 958] (by decide +kernel) (by decide +kernel)
set_option maxRecDepth 20000 in
theorem gp_wsX80 : GoodIn wsL_law wsX80 := goodIn_r _ [1008, 1009] (by decide +kernel) (by decide +kernel)
set_option maxRecDepth 20000 in
theorem gp_wsX40 : GoodIn wsL_law wsX40 := goodIn_r _ [1047, 1048, 1049, 1050, 1051, 1052, 1053, 1054, 1055, 1056] (by decide +kernel) (by decide +kernel)
set_option maxRecDepth 20000 in
theorem gp_wsX30 : GoodIn wsL_law wsX30 := goodIn_r _ [1057, 1058, 1059, 1060, 1061, 1062, 1063, 1064, 1065, 1066, 1067] (by decide +kernel) (by decide +kernel)
set_option maxRecDepth 20000 in
theorem gp_wsX50 : GoodIn wsL_law wsX50 := goodIn_r _ [1068, 1069, 1070, 1071, 1072, 1073] (by decide +kernel) (by decide +kernel)
set_option maxRecDepth 20000 in
theorem gp_wsX00 : GoodIn wsL_law wsX00 := goodIn_r _ [1027, 1028, 1029] (by decide +kernel) (by decide +kernel)
set_option maxRecDepth 20000 in
theorem gp_wsX90 : GoodIn wsL_law wsX90 := goodIn_r _ [1010, 1011, 1012, 1013, 1014] (by decide +kernel) (by decide +kernel)
set_option maxRecDepth 20000 in
theorem gp_wsX70 : GoodIn wsL_law wsX70 := goodIn_r _ [1038, 1039, 1040, 1041, 1042, 1043, 1044, 1045, 1046] (by decide +kernel) (by decide +kernel)
set_option maxRecDepth 20000 in
theorem gp_wsX20 : GoodIn wsL_law wsX20 := goodIn_r _ [1030, 1031, 1032, 1033, 1034, 1035, 1036, 1037] (by decide +kernel) (by decide +kernel)
set_option maxRecDepth 20000 in
theorem ggL_law_X11_part : GoodIn wsL_law wsX11_part := gp_cons gp_X11_part_c (goodIn_app (goodIn_app (goodIn_app (goodIn_app (goodIn_app (goodIn_app (goodIn_app (goodIn_app (goodIn_app (goodIn_app gp_wsX11_part_r1 (goodIn_app gp_wsX11_part_r2 (goodIn_app gp_wsX11_part_r3 (goodIn_app gp_wsX11_part_r4 (goodIn_app gp_wsX11_part_r5 (goodIn_app gp_wsX11_part_r6 (goodIn_app gp_wsX11_part_r7 (goodIn_app gp_wsX11_part_r8 (goodIn_app gp_wsX11_part_r9 (goodIn_app gp_wsX11_part_r10 (goodIn_app gp_wsX11_part_r11 (goodIn_app gp_wsX11_part_r12 (goodIn_app gp_wsX11_part_r13 gp_wsX11_part_r14))))))))))))) gp_wsX110) gp_wsX80) gp_wsX40) gp_wsX30) gp_wsX50) gp_wsX00) gp_wsX90) gp_wsX70) gp_wsX20)
set_option maxRecDepth 20000 in
theorem gp_X12_part_c : GoodIn wsL_law [.code yX12_part cX12_part 9 (some .long)] := goodIn_r _ [731] (by decide +kernel) (by decide +kernel)
set_option maxRecDepth 20000 in
theorem gp_wsX12_part_r1 : GoodIn wsL_law wsX12_part_r1 := goodIn_r _ [152, 732, 733, 115, 94, 254, 116, 293, 734, 735, 736, 737, 738, 739, 127, 740, 122, 121, 255, 256, 257, 5, 258, 259] (by decide +kernel) (by decide +kernel)
set_option maxRecDepth 20000 in
theorem gp_wsX12_part_r2 : GoodIn wsL_law wsX12_part_r2 := goodIn_r _ [260, 261, 365, 366, 367, 368, 369, 370, 371, 100, 106, 107, 102, 96, 103, 95, 101, 741, 742, 743, 744, 117, 119, 745] (by decide +kernel) (by decide +kernel)
set_option maxRecDepth 20000 in
theorem gp_wsX12_part_r3 : GoodIn wsL_law wsX12_part_r3 := goodIn_r _ [746, 747, 748, 749, 750, 751, 752, 753, 754, 755, 756, 757, 758, 759, 108, 97, 760, 761, 762, 763, 104, 764, 765, 766] (by decide +kernel) (by decide +kernel)
set_option maxRecDepth 20000 in
theorem gp_wsX12_part_r4 : GoodIn wsL_law wsX12_part_r4 := goodIn_r _ [767, 768, 769, 770, 771, 99, 105, 772, 773, 774, 775, 776, 777, 778, 779, 780, 781, 782, 783, 784, 785, 786, 123, 125] (by decide +kernel) (by decide +kernel)
set_option maxRecDepth 20000 in
theorem gp_wsX12_part_r5 : GoodIn wsL_law wsX12_part_r5 := goodIn_r _ [126, 124] (by decide +kernel) (by decide +kernel)
set_option maxRecDepth 20000 in
theorem gp_wsX120 : GoodIn wsL_law wsX120 := goodIn_r _ [959, 960, 961, 962, 963, 964, 965, 966, 967, 968, 969, 970, 971, 972, 973, 974, 975, 976, 977, 978, 979, 980, 981, 982, 983, 984, 985, 986, 987, 988, 989, 990, 991, 992, 993, 994, 995, 996, 997, 998, 999, 1000, 1001, 1002, 1003, 1004, 1005, 1006, 1007] (by decide +kernel) (by decide +kernel)
set_option maxRecDepth 20000 in
theorem ggL_law_X12_part : GoodIn wsL_law wsX12_part := gp_cons gp_X12_part_c (goodIn_app (goodIn_app gp_wsX12_part_r1 (goodIn_app gp_wsX12_part_r2 (goodIn_app gp_wsX12_part_r3 (goodIn_app gp_wsX12_part_r4 gp_wsX12_part_r5)))) gp_wsX120)
set_option maxRecDepth 20000 in
theorem gL_law_X11_part : GoodIn wsL_law (wsV RL 77 RX11 yX11_part wsX11_part) := goodIn_app (goodIn_of _ (by decide +kernel)) ggL_law_X11_part
set_option maxRecDepth 20000 in
theorem gL_law_X12_part : GoodIn wsL_law (wsV RL 81 RX12 yX12_part wsX12_part) := goodIn_app (goodIn_of _ (by decide +kernel)) ggL_law_X12_part
