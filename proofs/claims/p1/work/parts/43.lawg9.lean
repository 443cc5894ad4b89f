set_option maxRecDepth 20000 in
theorem ggL_law_X15_eventAt_k5 : GoodIn wsL_law wsJx4a65c0 := goodIn_r _ [1245, 1246, 1247] (by decide +kernel) (by decide +kernel)
set_option maxRecDepth 20000 in
theorem ggL_law_X15_eventAt_k6 : GoodIn wsL_law wsJ110 := goodIn_r _ [1271] (by decide +kernel) (by decide +kernel)
set_option maxRecDepth 20000 in
theorem ggL_law_X15_eventAt : GoodIn wsL_law wsX15_eventAt := goodIn_cons1 ggL_law_X15_eventAt_k0 (goodIn_app (goodIn_app (goodIn_app (goodIn_app (goodIn_app ggL_law_X15_eventAt_k1 ggL_law_X15_eventAt_k2) ggL_law_X15_eventAt_k3) ggL_law_X15_eventAt_k4) ggL_law_X15_eventAt_k5) ggL_law_X15_eventAt_k6)
set_option maxRecDepth 20000 in
theorem gL_law_X15_eventAt : GoodIn wsL_law (wsV RL 191 RX15 yX15_eventAt wsX15_eventAt) := goodIn_app (goodIn_of _ (by decide +kernel)) ggL_law_X15_eventAt
set_option maxRecDepth 20000 in
theorem ggL_law_X8_timeLeft_k0 : GoodIn wsL_law [.code yX8_timeLeft cX8_timeLeft 1 (some .int)] := goodIn_r _ [1027] (by decide +kernel) (by decide +kernel)
set_option maxRecDepth 20000 in
theorem ggL_law_X8_timeLeft_k1 : GoodIn wsL_law wsX8_timeLeft_r1 := goodIn_r _ [1028, 1029, 1030, 2, 1031, 17, 450, 18, 378, 1032, 1033, 1034, 1035, 1036, 37, 1037, 455, 763, 1038, 1039, 1040, 16, 1041, 26] (by decide +kernel) (by decide +kernel)
set_option maxRecDepth 20000 in
theorem ggL_law_X8_timeLeft_k2 : GoodIn wsL_law wsX8_timeLeft_r2 := goodIn_r _ [30, 34, 38, 42, 46, 656, 657, 47, 48, 49, 719, 50, 1042, 1043, 1044, 25, 1045, 170, 59, 60, 61, 746, 1046, 1047] (by decide +kernel) (by decide +kernel)
set_option maxRecDepth 20000 in
theorem ggL_law_X8_timeLeft_k3 : GoodIn wsL_law wsX8_timeLeft_r3 := goodIn_r _ [1048, 29, 1049, 291, 65, 66, 68, 1050, 1051, 1052, 33, 1053, 383, 73, 74, 75, 76, 1054, 1055, 1056, 1057, 80, 81, 82] (by decide +kernel) (by decide +kernel)
set_option maxRecDepth 20000 in
theorem ggL_law_X8_timeLeft_k4 : GoodIn wsL_law wsX8_timeLeft_r4 := goodIn_r _ [83, 1058, 1059, 1060, 41, 1061, 560, 87, 88, 89, 90, 1062, 1063, 1064, 45, 1065, 594, 94, 95, 96, 97, 98, 652, 653] (by decide +kernel) (by decide +kernel)
set_option maxRecDepth 20000 in
theorem ggL_law_X8_timeLeft_k5 : GoodIn wsL_law wsX8_timeLeft_r5 := goodIn_r _ [654, 655, 54, 658, 659, 660, 661, 662, 663, 664, 665, 666, 667, 668, 669, 670, 671, 53, 672, 673, 103, 674, 675, 676] (by decide +kernel) (by decide +kernel)
set_option maxRecDepth 20000 in
theorem ggL_law_X8_timeLeft_k6 : GoodIn wsL_law wsX8_timeLeft_r6 := goodIn_r _ [677, 678, 679, 680, 681, 682, 683, 684, 685, 686, 687, 688, 689, 690, 691, 692, 693, 694, 695, 696, 697, 698, 699, 700] (by decide +kernel) (by decide +kernel)
set_option maxRecDepth 20000 in
theorem ggL_law_X8_timeLeft_k7 : GoodIn wsL_law wsX8_timeLeft_r7 := goodIn_r _ [701, 702, 703, 704, 705, 706, 707, 708, 709, 710, 711, 712, 713, 714, 715, 716, 717, 718, 720, 721, 258, 232, 259, 722] (by decide +kernel) (by decide +kernel)
set_option maxRecDepth 20000 in
theorem ggL_law_X8_timeLeft_k8 : GoodIn wsL_law wsX8_timeLeft_r8 := goodIn_r _ [723, 724, 725, 726, 727, 728, 729, 730, 731, 732, 733, 734, 735, 736, 737, 738, 739, 740, 741, 742, 743, 744, 745, 747] (by decide +kernel) (by decide +kernel)
set_option maxRecDepth 20000 in
theorem ggL_law_X8_timeLeft_k9 : GoodIn wsL_law wsX8_timeLeft_r9 := goodIn_r _ [748, 749, 750, 751, 752, 753, 754, 755, 756, 757, 758, 759, 760, 761, 762, 764, 765, 766, 767, 768, 769, 770, 771, 772] (by decide +kernel) (by decide +kernel)
set_option maxRecDepth 20000 in
theorem ggL_law_X8_timeLeft_k10 : GoodIn wsL_law wsX8_timeLeft_r10 := goodIn_r _ [773, 774, 775, 776, 777, 778, 779, 780, 781, 782, 783, 784, 785, 786, 787, 788, 789, 790, 791] (by decide +kernel) (by decide +kernel)
set_option maxRecDepth 20000 in
theorem ggL_law_X8_timeLeft_k11 : GoodIn wsL_law wsX80 := goodIn_r _ [1180, 1181] (by decide +kernel) (by decide +kernel)
set_option maxRecDepth 20000 in
theorem ggL_law_X8_timeLeft_k12 : GoodIn wsL_law wsX70 := goodIn_r _ [1184, 1185, 1186, 1187, 1188, 1189, 1190, 1191, 1192, 1193, 1194, 1195, 1196, 1197] (by decide +kernel) (by decide +kernel)
set_option maxRecDepth 20000 in
theorem ggL_law_X8_timeLeft_k13 : GoodIn wsL_law wsX20 := goodIn_r _ [1207, 1208, 1209, 1210, 1211] (by decide +kernel) (by decide +kernel)
set_option maxRecDepth 20000 in
theorem ggL_law_X8_timeLeft_k14 : GoodIn wsL_law wsX10 := goodIn_r _ [1212, 1213, 1214, 1215, 1216, 1217] (by decide +kernel) (by decide +kernel)
set_option maxRecDepth 20000 in
theorem ggL_law_X8_timeLeft_k15 : GoodIn wsL_law wsX50 := goodIn_r _ [1198, 1199, 1200, 1201, 1202] (by decide +kernel) (by decide +kernel)
set_option maxRecDepth 20000 in
theorem ggL_law_X8_timeLeft_k16 : GoodIn wsL_law wsX40 := goodIn_r _ [1203, 1204, 1205, 1206] (by decide +kernel) (by decide +kernel)
set_option maxRecDepth 20000 in
theorem ggL_law_X8_timeLeft_k17 : GoodIn wsL_law wsX00 := goodIn_r _ [1218, 1219, 1220, 1221, 1222] (by decide +kernel) (by decide +kernel)
set_option maxRecDepth 20000 in
theorem ggL_law_X8_timeLeft_k18 : GoodIn wsL_law wsX60 := goodIn_r _ [1223, 1224, 1225, 1226, 1227, 1228] (by decide +kernel) (by decide +kernel)
set_option maxRecDepth 20000 in
theorem ggL_law_X8_timeLeft_k19 : GoodIn wsL_law wsX30 := goodIn_r _ [1229, 1230] (by decide +kernel) (by decide +kernel)
set_option maxRecDepth 20000 in
theorem ggL_law_X8_timeLeft : GoodIn wsL_law wsX8_timeLeft := goodIn_ca (goodIn_cons1 ggL_law_X8_timeLeft_k0 (goodIn_app (goodIn_app (goodIn_app (goodIn_app (goodIn_app (goodIn_app (goodIn_app (goodIn_app (goodIn_app (goodIn_app ggL_law_X8_timeLeft_k1 (goodIn_app ggL_law_X8_timeLeft_k2 (goodIn_app ggL_law_X8_timeLeft_k3 (goodIn_app ggL_law_X8_timeLeft_k4 (goodIn_app ggL_law_X8_timeLeft_k5 (goodIn_app ggL_law_X8_timeLeft_k6 (goodIn_app ggL_law_X8_timeLeft_k7 (goodIn_app ggL_law_X8_timeLeft_k8 (goodIn_app ggL_law_X8_timeLeft_k9 ggL_law_X8_timeLeft_k10))))))))) ggL_law_X8_timeLeft_k11) ggL_law_X8_timeLeft_k12) ggL_law_X8_timeLeft_k13) ggL_law_X8_timeLeft_k14) ggL_law_X8_timeLeft_k15) ggL_law_X8_timeLeft_k16) ggL_law_X8_timeLeft_k17) ggL_law_X8_timeLeft_k18) ggL_law_X8_timeLeft_k19)) (goodIn_sub (fun _ h => List.mem_append_left _ (List.mem_append_left _ (List.mem_append_left _ (List.mem_append_left _ (List.mem_append_left _ (List.mem_append_right _ h)))))) (by decide +kernel))
set_option maxRecDepth 20000 in
theorem gL_law_X8_timeLeft : GoodIn wsL_law (wsV RL 192 RX8 yX8_timeLeft wsX8_timeLeft) := goodIn_app (goodIn_of _ (by decide +kernel)) ggL_law_X8_timeLeft
set_option maxRecDepth 20000 in
theorem ggL_law_X15_timeLeft_k0 : GoodIn wsL_law [.code yX15_timeLeft cX15_timeLeft 1 (some .int)] := goodIn_r _ [1069] (by decide +kernel) (by decide +kernel)
set_option maxRecDepth 20000 in
theorem ggL_law_X15_timeLeft_k1 : GoodIn wsL_law wsX15_timeLeft_r1 := goodIn_r _ [111, 1070, 1071, 1072, 110, 1073, 1074, 109, 118, 119, 120, 125, 121, 802, 1075, 302, 303, 878, 879, 803, 122, 843, 1076, 394] (by decide +kernel) (by decide +kernel)
set_option maxRecDepth 20000 in
theorem ggL_law_X15_timeLeft_k2 : GoodIn wsL_law wsX15_timeLeft_r2 := goodIn_r _ [395, 861, 862, 844, 123, 804, 1077, 466, 467, 805, 884, 885, 124, 849, 1078, 605, 606, 850, 852, 851, 1079, 127, 128, 129] (by decide +kernel) (by decide +kernel)
set_option maxRecDepth 20000 in
theorem ggL_law_X15_timeLeft_k3 : GoodIn wsL_law wsX15_timeLeft_r3 := goodIn_r _ [130, 131, 1080, 112, 113, 114, 12, 13, 115, 116, 117, 126, 132, 133, 134, 135, 136, 137, 138, 139, 140, 141, 142, 143] (by decide +kernel) (by decide +kernel)
set_option maxRecDepth 20000 in
theorem ggL_law_X15_timeLeft_k4 : GoodIn wsL_law wsX15_timeLeft_r4 := goodIn_r _ [144, 145, 146, 1081, 1082, 1083, 1084, 216, 217, 194, 823, 261, 262, 263, 1085, 1086, 1087, 1088, 244, 245, 246, 247, 248, 249] (by decide +kernel) (by decide +kernel)
set_option maxRecDepth 20000 in
theorem ggL_law_X15_timeLeft_k5 : GoodIn wsL_law wsX15_timeLeft_r5 := goodIn_r _ [250, 251, 252, 253, 254, 255, 256, 257, 258, 232, 259, 260, 226, 227, 228, 229, 230, 231, 233, 234, 235, 236, 237, 238] (by decide +kernel) (by decide +kernel)
set_option maxRecDepth 20000 in
theorem ggL_law_X15_timeLeft_k6 : GoodIn wsL_law wsX15_timeLeft_r6 := goodIn_r _ [239, 240, 241, 242, 243, 853, 502, 503, 504, 505, 506, 507, 508, 509, 510, 511, 512, 513, 514, 515, 854, 517, 518, 519] (by decide +kernel) (by decide +kernel)
set_option maxRecDepth 20000 in
theorem ggL_law_X15_timeLeft_k7 : GoodIn wsL_law wsX15_timeLeft_r7 := goodIn_r _ [520, 855, 522, 523, 524, 525, 526, 527, 528, 529, 1089, 309, 310, 311, 312, 313, 314, 836, 213, 214, 215, 218, 219, 220] (by decide +kernel) (by decide +kernel)
set_option maxRecDepth 20000 in
theorem ggL_law_X15_timeLeft_k8 : GoodIn wsL_law wsX15_timeLeft_r8 := goodIn_r _ [221, 222, 223, 224, 225, 1090, 397, 398, 399, 400, 401, 402, 403, 1091, 469, 470, 471, 472, 473, 474, 1092, 608, 609, 610] (by decide +kernel) (by decide +kernel)
set_option maxRecDepth 20000 in
theorem ggL_law_X15_timeLeft_k9 : GoodIn wsL_law wsX15_timeLeft_r9 := goodIn_r _ [611, 612, 613, 614, 1093, 1094, 1095, 1096, 1097, 1098, 1099, 1100, 1101, 797, 798, 799, 800, 801, 806, 807, 808, 809, 810, 811] (by decide +kernel) (by decide +kernel)
set_option maxRecDepth 20000 in
theorem ggL_law_X15_timeLeft_k10 : GoodIn wsL_law wsX15_timeLeft_r10 := goodIn_r _ [812, 813, 191, 192, 193, 814, 335, 336, 337, 338, 339, 340, 341, 342, 343, 344, 345, 346, 347, 348, 349, 815, 816, 817] (by decide +kernel) (by decide +kernel)
set_option maxRecDepth 20000 in
theorem ggL_law_X15_timeLeft_k11 : GoodIn wsL_law wsX15_timeLeft_r11 := goodIn_r _ [818, 819, 820, 821, 822, 824, 825, 826, 827, 828, 829, 830, 831, 832, 833, 834, 835, 837, 838, 839, 840, 841, 842, 845] (by decide +kernel) (by decide +kernel)
set_option maxRecDepth 20000 in
theorem ggL_law_X15_timeLeft_k12 : GoodIn wsL_law wsX15_timeLeft_r12 := goodIn_r _ [846, 847, 848, 856, 857, 858, 859, 860, 863, 864, 865, 866, 867, 368, 369, 197, 370, 206, 868, 869, 870, 871, 872, 196] (by decide +kernel) (by decide +kernel)
set_option maxRecDepth 20000 in
theorem ggL_law_X15_timeLeft_k13 : GoodIn wsL_law wsX15_timeLeft_r13 := goodIn_r _ [198, 199, 200, 201, 202, 203, 204, 205, 207, 208, 209, 210, 211, 873, 364, 365, 366, 874, 875, 876, 877, 880, 881, 882] (by decide +kernel) (by decide +kernel)
