set_option maxRecDepth 20000 in
theorem ggL_law_X15_timeLeft_k14 : GoodIn wsL_law wsX15_timeLeft_r14 := goodIn_r _ [883, 886, 887, 888, 889, 890, 891, 892, 893, 894, 895, 896, 897] (by decide +kernel) (by decide +kernel)
set_option maxRecDepth 20000 in
theorem ggL_law_X15_timeLeft_k15 : GoodIn wsL_law wsX150 := goodIn_r _ [1182, 1183] (by decide +kernel) (by decide +kernel)
set_option maxRecDepth 20000 in
theorem ggL_law_X15_timeLeft_k16 : GoodIn wsL_law wsX140 := goodIn_r _ [1231, 1232, 1233, 1234, 1235, 1236, 1237, 1238, 1239, 1240, 1241, 1242, 1243, 1244] (by decide +kernel) (by decide +kernel)
set_option maxRecDepth 20000 in
theorem ggL_law_X15_timeLeft_k17 : GoodIn wsL_law wsX110 := goodIn_r _ [1249, 1250, 1251] (by decide +kernel) (by decide +kernel)
set_option maxRecDepth 20000 in
theorem ggL_law_X15_timeLeft_k18 : GoodIn wsL_law wsX100 := goodIn_r _ [1252, 1253, 1254, 1255] (by decide +kernel) (by decide +kernel)
set_option maxRecDepth 20000 in
theorem ggL_law_X15_timeLeft_k19 : GoodIn wsL_law wsX120 := goodIn_r _ [1256, 1257, 1258] (by decide +kernel) (by decide +kernel)
set_option maxRecDepth 20000 in
theorem ggL_law_X15_timeLeft_k20 : GoodIn wsL_law wsX130 := goodIn_r _ [1267, 1268, 1269, 1270] (by decide +kernel) (by decide +kernel)
set_option maxRecDepth 20000 in
theorem ggL_law_X15_timeLeft_k21 : GoodIn wsL_law wsJx4a65c0 := goodIn_r _ [1245, 1246, 1247] (by decide +kernel) (by decide +kernel)
set_option maxRecDepth 20000 in
theorem ggL_law_X15_timeLeft_k22 : GoodIn wsL_law wsJx354110 := goodIn_r _ [1259, 1260, 1261, 1262] (by decide +kernel) (by decide +kernel)
set_option maxRecDepth 20000 in
theorem ggL_law_X15_timeLeft_k23 : GoodIn wsL_law wsX90 := goodIn_r _ [1263, 1264, 1265, 1266] (by decide +kernel) (by decide +kernel)
set_option maxRecDepth 20000 in
theorem ggL_law_X15_timeLeft_k24 : GoodIn wsL_law wsJ110 := goodIn_r _ [1271] (by decide +kernel) (by decide +kernel)
set_option maxRecDepth 20000 in
theorem ggL_law_X15_timeLeft_k25 : GoodIn wsL_law wsJ60 := goodIn_r _ [1248] (by decide +kernel) (by decide +kernel)
set_option maxRecDepth 20000 in
theorem ggL_law_X15_timeLeft : GoodIn wsL_law wsX15_timeLeft := goodIn_cons1 ggL_law_X15_timeLeft_k0 (goodIn_app (goodIn_app (goodIn_app (goodIn_app (goodIn_app (goodIn_app (goodIn_app (goodIn_app (goodIn_app (goodIn_app (goodIn_app (goodIn_app ggL_law_X15_timeLeft_k1 (goodIn_app ggL_law_X15_timeLeft_k2 (goodIn_app ggL_law_X15_timeLeft_k3 (goodIn_app ggL_law_X15_timeLeft_k4 (goodIn_app ggL_law_X15_timeLeft_k5 (goodIn_app ggL_law_X15_timeLeft_k6 (goodIn_app ggL_law_X15_timeLeft_k7 (goodIn_app ggL_law_X15_timeLeft_k8 (goodIn_app ggL_law_X15_timeLeft_k9 (goodIn_app ggL_law_X15_timeLeft_k10 (goodIn_app ggL_law_X15_timeLeft_k11 (goodIn_app ggL_law_X15_timeLeft_k12 (goodIn_app ggL_law_X15_timeLeft_k13 ggL_law_X15_timeLeft_k14))))))))))))) ggL_law_X15_timeLeft_k15) ggL_law_X15_timeLeft_k16) ggL_law_X15_timeLeft_k17) ggL_law_X15_timeLeft_k18) ggL_law_X15_timeLeft_k19) ggL_law_X15_timeLeft_k20) ggL_law_X15_timeLeft_k21) ggL_law_X15_timeLeft_k22) ggL_law_X15_timeLeft_k23) ggL_law_X15_timeLeft_k24) ggL_law_X15_timeLeft_k25)
set_option maxRecDepth 20000 in
theorem gL_law_X15_timeLeft : GoodIn wsL_law (wsV RL 195 RX15 yX15_timeLeft wsX15_timeLeft) := goodIn_app (goodIn_of _ (by decide +kernel)) ggL_law_X15_timeLeft
set_option maxRecDepth 20000 in
theorem ggL_law_X8_worst_k0 : GoodIn wsL_law [.code yX8_worst cX8_worst 3 (some .int)] := goodIn_r _ [1105] (by decide +kernel) (by decide +kernel)
set_option maxRecDepth 20000 in
theorem ggL_law_X8_worst_k1 : GoodIn wsL_law wsX8_worst_r1 := goodIn_r _ [17, 378, 414, 1028, 1029, 1030, 2, 1031, 450, 18, 1032, 1033, 1034, 1035, 1036, 37, 1037, 455, 763, 1038, 1039, 1040, 16, 1041] (by decide +kernel) (by decide +kernel)
set_option maxRecDepth 20000 in
theorem ggL_law_X8_worst_k2 : GoodIn wsL_law wsX8_worst_r2 := goodIn_r _ [26, 30, 34, 38, 42, 46, 656, 657, 47, 48, 49, 719, 50, 1042, 1043, 1044, 25, 1045, 170, 59, 60, 61, 746, 1046] (by decide +kernel) (by decide +kernel)
set_option maxRecDepth 20000 in
theorem ggL_law_X8_worst_k3 : GoodIn wsL_law wsX8_worst_r3 := goodIn_r _ [1047, 1048, 29, 1049, 291, 65, 66, 68, 1050, 1051, 1052, 33, 1053, 383, 73, 74, 75, 76, 1054, 1055, 1056, 1057, 80, 81] (by decide +kernel) (by decide +kernel)
set_option maxRecDepth 20000 in
theorem ggL_law_X8_worst_k4 : GoodIn wsL_law wsX8_worst_r4 := goodIn_r _ [82, 83, 1058, 1059, 1060, 41, 1061, 560, 87, 88, 89, 90, 1062, 1063, 1064, 45, 1065, 594, 94, 95, 96, 97, 98, 652] (by decide +kernel) (by decide +kernel)
set_option maxRecDepth 20000 in
theorem ggL_law_X8_worst_k5 : GoodIn wsL_law wsX8_worst_r5 := goodIn_r _ [653, 654, 655, 54, 658, 659, 660, 661, 662, 663, 664, 665, 666, 667, 668, 669, 670, 671, 53, 672, 673, 103, 674, 675] (by decide +kernel) (by decide +kernel)
set_option maxRecDepth 20000 in
theorem ggL_law_X8_worst_k6 : GoodIn wsL_law wsX8_worst_r6 := goodIn_r _ [676, 677, 678, 679, 680, 681, 682, 683, 684, 685, 686, 687, 688, 689, 690, 691, 692, 693, 694, 695, 696, 697, 698, 699] (by decide +kernel) (by decide +kernel)
set_option maxRecDepth 20000 in
theorem ggL_law_X8_worst_k7 : GoodIn wsL_law wsX8_worst_r7 := goodIn_r _ [700, 701, 702, 703, 704, 705, 706, 707, 708, 709, 710, 711, 712, 713, 714, 715, 716, 717, 718, 720, 721, 258, 232, 259] (by decide +kernel) (by decide +kernel)
set_option maxRecDepth 20000 in
theorem ggL_law_X8_worst_k8 : GoodIn wsL_law wsX8_worst_r8 := goodIn_r _ [722, 723, 724, 725, 726, 727, 728, 729, 730, 731, 732, 733, 734, 735, 736, 737, 738, 739, 740, 741, 742, 743, 744, 745] (by decide +kernel) (by decide +kernel)
set_option maxRecDepth 20000 in
theorem ggL_law_X8_worst_k9 : GoodIn wsL_law wsX8_worst_r9 := goodIn_r _ [747, 748, 749, 750, 751, 752, 753, 754, 755, 756, 757, 758, 759, 760, 761, 762, 764, 765, 766, 767, 768, 769, 770, 771] (by decide +kernel) (by decide +kernel)
set_option maxRecDepth 20000 in
theorem ggL_law_X8_worst_k10 : GoodIn wsL_law wsX8_worst_r10 := goodIn_r _ [772, 773, 774, 775, 776, 777, 778, 779, 780, 781, 782, 783, 784, 785, 786, 787, 788, 789, 790, 791] (by decide +kernel) (by decide +kernel)
set_option maxRecDepth 20000 in
theorem ggL_law_X8_worst_k11 : GoodIn wsL_law wsX80 := goodIn_r _ [1180, 1181] (by decide +kernel) (by decide +kernel)
set_option maxRecDepth 20000 in
theorem ggL_law_X8_worst_k12 : GoodIn wsL_law wsX70 := goodIn_r _ [1184, 1185, 1186, 1187, 1188, 1189, 1190, 1191, 1192, 1193, 1194, 1195, 1196, 1197] (by decide +kernel) (by decide +kernel)
set_option maxRecDepth 20000 in
theorem ggL_law_X8_worst_k13 : GoodIn wsL_law wsX20 := goodIn_r _ [1207, 1208, 1209, 1210, 1211] (by decide +kernel) (by decide +kernel)
set_option maxRecDepth 20000 in
theorem ggL_law_X8_worst_k14 : GoodIn wsL_law wsX10 := goodIn_r _ [1212, 1213, 1214, 1215, 1216, 1217] (by decide +kernel) (by decide +kernel)
set_option maxRecDepth 20000 in
theorem ggL_law_X8_worst_k15 : GoodIn wsL_law wsX50 := goodIn_r _ [1198, 1199, 1200, 1201, 1202] (by decide +kernel) (by decide +kernel)
set_option maxRecDepth 20000 in
theorem ggL_law_X8_worst_k16 : GoodIn wsL_law wsX40 := goodIn_r _ [1203, 1204, 1205, 1206] (by decide +kernel) (by decide +kernel)
set_option maxRecDepth 20000 in
theorem ggL_law_X8_worst_k17 : GoodIn wsL_law wsX00 := goodIn_r _ [1218, 1219, 1220, 1221, 1222] (by decide +kernel) (by decide +kernel)
set_option maxRecDepth 20000 in
theorem ggL_law_X8_worst_k18 : GoodIn wsL_law wsX60 := goodIn_r _ [1223, 1224, 1225, 1226, 1227, 1228] (by decide +kernel) (by decide +kernel)
set_option maxRecDepth 20000 in
theorem ggL_law_X8_worst_k19 : GoodIn wsL_law wsX30 := goodIn_r _ [1229, 1230] (by decide +kernel) (by decide +kernel)
set_option maxRecDepth 20000 in
theorem ggL_law_X8_worst : GoodIn wsL_law wsX8_worst := goodIn_ca (goodIn_cons1 ggL_law_X8_worst_k0 (goodIn_app (goodIn_app (goodIn_app (goodIn_app (goodIn_app (goodIn_app (goodIn_app (goodIn_app (goodIn_app (goodIn_app ggL_law_X8_worst_k1 (goodIn_app ggL_law_X8_worst_k2 (goodIn_app ggL_law_X8_worst_k3 (goodIn_app ggL_law_X8_worst_k4 (goodIn_app ggL_law_X8_worst_k5 (goodIn_app ggL_law_X8_worst_k6 (goodIn_app ggL_law_X8_worst_k7 (goodIn_app ggL_law_X8_worst_k8 (goodIn_app ggL_law_X8_worst_k9 ggL_law_X8_worst_k10))))))))) ggL_law_X8_worst_k11) ggL_law_X8_worst_k12) ggL_law_X8_worst_k13) ggL_law_X8_worst_k14) ggL_law_X8_worst_k15) ggL_law_X8_worst_k16) ggL_law_X8_worst_k17) ggL_law_X8_worst_k18) ggL_law_X8_worst_k19)) (goodIn_sub (fun _ h => List.mem_append_left _ (List.mem_append_left _ (List.mem_append_left _ (List.mem_append_left _ (List.mem_append_left _ (List.mem_append_right _ h)))))) (by decide +kernel))
set_option maxRecDepth 20000 in
theorem gL_law_X8_worst : GoodIn wsL_law (wsV RL 196 RX8 yX8_worst wsX8_worst) := goodIn_app (goodIn_of _ (by decide +kernel)) ggL_law_X8_worst
set_option maxRecDepth 20000 in
theorem ggL_law_X15_worst_k0 : GoodIn wsL_law [.code yX15_worst cX15_worst 4 (some .int)] := goodIn_r _ [1109] (by decide +kernel) (by decide +kernel)
set_option maxRecDepth 20000 in
theorem ggL_law_X15_worst_k1 : GoodIn wsL_law wsX15_worst_r1 := goodIn_r _ [111, 392, 422, 1110, 1111, 258, 232, 259, 1112, 1067, 1068, 5, 1069, 1070, 1071, 1072, 110, 1073, 1074, 109, 118, 119, 120, 125] (by decide +kernel) (by decide +kernel)
set_option maxRecDepth 20000 in
theorem ggL_law_X15_worst_k2 : GoodIn wsL_law wsX15_worst_r2 := goodIn_r _ [121, 802, 1075, 302, 303, 878, 879, 803, 122, 843, 1076, 394, 395, 861, 862, 844, 123, 804, 1077, 466, 467, 805, 884, 885] (by decide +kernel) (by decide +kernel)
set_option maxRecDepth 20000 in
theorem ggL_law_X15_worst_k3 : GoodIn wsL_law wsX15_worst_r3 := goodIn_r _ [124, 849, 1078, 605, 606, 850, 852, 851, 1079, 127, 128, 129, 130, 131, 1080, 112, 113, 114, 12, 13, 115, 116, 117, 126] (by decide +kernel) (by decide +kernel)
