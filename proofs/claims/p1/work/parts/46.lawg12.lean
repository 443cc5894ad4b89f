set_option maxRecDepth 20000 in
theorem gL_law_X15_aliveShare : GoodIn wsL_law (wsV RL 208 RX15 yX15_aliveShare wsX15_aliveShare) := goodIn_app (goodIn_of _ (by decide +kernel)) ggL_law_X15_aliveShare
set_option maxRecDepth 20000 in
theorem ggL_law_L_meanOxygen : GoodIn wsL_law wsL_meanOxygen := goodIn_ca (goodIn_ca (goodIn_r _ [1139, 645, 1140, 1141, 1142, 2, 1143, 650, 651, 17, 159, 281, 1144, 1145, 1146, 25, 1147, 170, 59, 1180, 1181, 1184, 1185, 1186, 1187, 1188, 1189, 1190, 1191, 1192, 1193, 1194, 1195, 1196, 1197, 1198, 1199, 1200, 1201, 1202] (by decide +kernel) (by decide +kernel)) (goodIn_sub (fun _ h => List.mem_append_left _ (List.mem_append_left _ (List.mem_append_left _ (List.mem_append_left _ (List.mem_append_left _ (List.mem_append_right _ h)))))) (by decide +kernel))) (goodIn_sub (fun _ h => List.mem_append_right _ h) (by decide +kernel))
set_option maxRecDepth 20000 in
theorem gL_law_L_meanOxygen : GoodIn wsL_law (va_wsS RL 209 yL_meanOxygen wsL_meanOxygen) := goodIn_app (goodIn_of _ (by decide +kernel)) ggL_law_L_meanOxygen
set_option maxRecDepth 20000 in
theorem ggL_law_X15_meanOxygen_k0 : GoodIn wsL_law [.code yX15_meanOxygen cX15_meanOxygen 4 (some .double)] := goodIn_r _ [1151] (by decide +kernel) (by decide +kernel)
set_option maxRecDepth 20000 in
theorem ggL_law_X15_meanOxygen_k1 : GoodIn wsL_law wsX15_meanOxygen_r1 := goodIn_r _ [111, 179, 362, 1152, 1153, 1154, 117, 1155, 194, 185, 186, 187, 5, 188, 189, 501, 502, 503, 504, 505, 506, 507, 508, 509] (by decide +kernel) (by decide +kernel)
set_option maxRecDepth 20000 in
theorem ggL_law_X15_meanOxygen_k2 : GoodIn wsL_law wsX15_meanOxygen_r2 := goodIn_r _ [510, 511, 512, 12, 13, 513, 514, 217, 515, 516, 517, 518, 519, 520, 521, 522, 523, 524, 525, 526, 527, 528, 529, 367] (by decide +kernel) (by decide +kernel)
set_option maxRecDepth 20000 in
theorem ggL_law_X15_meanOxygen_k3 : GoodIn wsL_law wsX15_meanOxygen_r3 := goodIn_r _ [368, 369, 197, 370, 206, 190, 191, 192, 193] (by decide +kernel) (by decide +kernel)
set_option maxRecDepth 20000 in
theorem ggL_law_X15_meanOxygen_k4 : GoodIn wsL_law wsX150 := goodIn_r _ [1182, 1183] (by decide +kernel) (by decide +kernel)
set_option maxRecDepth 20000 in
theorem ggL_law_X15_meanOxygen_k5 : GoodIn wsL_law wsX140 := goodIn_r _ [1231, 1232, 1233, 1234, 1235, 1236, 1237, 1238, 1239, 1240, 1241, 1242, 1243, 1244] (by decide +kernel) (by decide +kernel)
set_option maxRecDepth 20000 in
theorem ggL_law_X15_meanOxygen_k6 : GoodIn wsL_law wsJx4a65c0 := goodIn_r _ [1245, 1246, 1247] (by decide +kernel) (by decide +kernel)
set_option maxRecDepth 20000 in
theorem ggL_law_X15_meanOxygen_k7 : GoodIn wsL_law wsJx354110 := goodIn_r _ [1259, 1260, 1261, 1262] (by decide +kernel) (by decide +kernel)
set_option maxRecDepth 20000 in
theorem ggL_law_X15_meanOxygen_k8 : GoodIn wsL_law wsJ60 := goodIn_r _ [1248] (by decide +kernel) (by decide +kernel)
set_option maxRecDepth 20000 in
theorem ggL_law_X15_meanOxygen : GoodIn wsL_law wsX15_meanOxygen := goodIn_cons1 ggL_law_X15_meanOxygen_k0 (goodIn_app (goodIn_app (goodIn_app (goodIn_app (goodIn_app (goodIn_app ggL_law_X15_meanOxygen_k1 (goodIn_app ggL_law_X15_meanOxygen_k2 ggL_law_X15_meanOxygen_k3)) ggL_law_X15_meanOxygen_k4) ggL_law_X15_meanOxygen_k5) ggL_law_X15_meanOxygen_k6) ggL_law_X15_meanOxygen_k7) ggL_law_X15_meanOxygen_k8)
set_option maxRecDepth 20000 in
theorem gL_law_X15_meanOxygen : GoodIn wsL_law (wsV RL 211 RX15 yX15_meanOxygen wsX15_meanOxygen) := goodIn_app (goodIn_of _ (by decide +kernel)) ggL_law_X15_meanOxygen
set_option maxRecDepth 20000 in
theorem ggL_law_X8_isSound_k0 : GoodIn wsL_law [.code yX8_isSound cX8_isSound 1 (some .boolean)] := goodIn_r _ [1159] (by decide +kernel) (by decide +kernel)
set_option maxRecDepth 20000 in
theorem ggL_law_X8_isSound_k1 : GoodIn wsL_law wsX8_isSound_r1 := goodIn_r _ [17, 944, 554, 555, 1160, 1161, 1162, 16, 1163, 50, 26, 1164, 49, 719, 1165, 1145, 1146, 25, 1147, 170, 59, 1166, 1167, 1168] (by decide +kernel) (by decide +kernel)
set_option maxRecDepth 20000 in
theorem ggL_law_X8_isSound_k2 : GoodIn wsL_law wsX8_isSound_r2 := goodIn_r _ [1169, 60, 1170, 1171, 1172, 41, 1173, 560, 89, 90, 1174, 1103, 1104, 2, 1105, 378, 414, 1028, 1029, 1030, 1031, 450, 18, 1032] (by decide +kernel) (by decide +kernel)
set_option maxRecDepth 20000 in
theorem ggL_law_X8_isSound_k3 : GoodIn wsL_law wsX8_isSound_r3 := goodIn_r _ [1033, 1034, 1035, 1036, 37, 1037, 455, 763, 1038, 1039, 1040, 1041, 30, 34, 38, 42, 46, 656, 657, 47, 48, 1042, 1043, 1044] (by decide +kernel) (by decide +kernel)
set_option maxRecDepth 20000 in
theorem ggL_law_X8_isSound_k4 : GoodIn wsL_law wsX8_isSound_r4 := goodIn_r _ [1045, 61, 746, 1046, 1047, 1048, 29, 1049, 291, 65, 66, 68, 1050, 1051, 1052, 33, 1053, 383, 73, 74, 75, 76, 1054, 1055] (by decide +kernel) (by decide +kernel)
set_option maxRecDepth 20000 in
theorem ggL_law_X8_isSound_k5 : GoodIn wsL_law wsX8_isSound_r5 := goodIn_r _ [1056, 1057, 80, 81, 82, 83, 1058, 1059, 1060, 1061, 87, 88, 1062, 1063, 1064, 45, 1065, 594, 94, 95, 96, 97, 98, 652] (by decide +kernel) (by decide +kernel)
set_option maxRecDepth 20000 in
theorem ggL_law_X8_isSound_k6 : GoodIn wsL_law wsX8_isSound_r6 := goodIn_r _ [653, 654, 655, 54, 658, 659, 660, 661, 662, 663, 664, 665, 666, 667, 668, 669, 670, 671, 53, 672, 673, 103, 674, 675] (by decide +kernel) (by decide +kernel)
set_option maxRecDepth 20000 in
theorem ggL_law_X8_isSound_k7 : GoodIn wsL_law wsX8_isSound_r7 := goodIn_r _ [676, 677, 678, 679, 680, 681, 682, 683, 684, 685, 686, 687, 688, 689, 690, 691, 692, 693, 694, 695, 696, 697, 698, 699] (by decide +kernel) (by decide +kernel)
set_option maxRecDepth 20000 in
theorem ggL_law_X8_isSound_k8 : GoodIn wsL_law wsX8_isSound_r8 := goodIn_r _ [700, 701, 702, 703, 704, 705, 706, 707, 708, 709, 710, 711, 712, 713, 714, 715, 716, 717, 718, 720, 721, 258, 232, 259] (by decide +kernel) (by decide +kernel)
set_option maxRecDepth 20000 in
theorem ggL_law_X8_isSound_k9 : GoodIn wsL_law wsX8_isSound_r9 := goodIn_r _ [722, 723, 724, 725, 726, 727, 728, 729, 730, 731, 732, 733, 734, 735, 736, 737, 738, 739, 740, 741, 742, 743, 744, 745] (by decide +kernel) (by decide +kernel)
set_option maxRecDepth 20000 in
theorem ggL_law_X8_isSound_k10 : GoodIn wsL_law wsX8_isSound_r10 := goodIn_r _ [747, 748, 749, 750, 751, 752, 753, 754, 755, 756, 757, 758, 759, 760, 761, 762, 764, 765, 766, 767, 768, 769, 770, 771] (by decide +kernel) (by decide +kernel)
set_option maxRecDepth 20000 in
theorem ggL_law_X8_isSound_k11 : GoodIn wsL_law wsX8_isSound_r11 := goodIn_r _ [772, 773, 774, 775, 776, 777, 778, 779, 780, 781, 782, 783, 784, 785, 786, 787, 788, 789, 790, 791, 1175, 1025, 1026, 1027] (by decide +kernel) (by decide +kernel)
set_option maxRecDepth 20000 in
theorem ggL_law_X8_isSound_k12 : GoodIn wsL_law wsX80 := goodIn_r _ [1180, 1181] (by decide +kernel) (by decide +kernel)
set_option maxRecDepth 20000 in
theorem ggL_law_X8_isSound_k13 : GoodIn wsL_law wsX70 := goodIn_r _ [1184, 1185, 1186, 1187, 1188, 1189, 1190, 1191, 1192, 1193, 1194, 1195, 1196, 1197] (by decide +kernel) (by decide +kernel)
set_option maxRecDepth 20000 in
theorem ggL_law_X8_isSound_k14 : GoodIn wsL_law wsX50 := goodIn_r _ [1198, 1199, 1200, 1201, 1202] (by decide +kernel) (by decide +kernel)
set_option maxRecDepth 20000 in
theorem ggL_law_X8_isSound_k15 : GoodIn wsL_law wsX00 := goodIn_r _ [1218, 1219, 1220, 1221, 1222] (by decide +kernel) (by decide +kernel)
set_option maxRecDepth 20000 in
theorem ggL_law_X8_isSound_k16 : GoodIn wsL_law wsX20 := goodIn_r _ [1207, 1208, 1209, 1210, 1211] (by decide +kernel) (by decide +kernel)
set_option maxRecDepth 20000 in
theorem ggL_law_X8_isSound_k17 : GoodIn wsL_law wsX10 := goodIn_r _ [1212, 1213, 1214, 1215, 1216, 1217] (by decide +kernel) (by decide +kernel)
set_option maxRecDepth 20000 in
theorem ggL_law_X8_isSound_k18 : GoodIn wsL_law wsX40 := goodIn_r _ [1203, 1204, 1205, 1206] (by decide +kernel) (by decide +kernel)
set_option maxRecDepth 20000 in
theorem ggL_law_X8_isSound_k19 : GoodIn wsL_law wsX60 := goodIn_r _ [1223, 1224, 1225, 1226, 1227, 1228] (by decide +kernel) (by decide +kernel)
set_option maxRecDepth 20000 in
theorem ggL_law_X8_isSound_k20 : GoodIn wsL_law wsX30 := goodIn_r _ [1229, 1230] (by decide +kernel) (by decide +kernel)
set_option maxRecDepth 20000 in
theorem ggL_law_X8_isSound : GoodIn wsL_law wsX8_isSound := goodIn_ca (goodIn_cons1 ggL_law_X8_isSound_k0 (goodIn_app (goodIn_app (goodIn_app (goodIn_app (goodIn_app (goodIn_app (goodIn_app (goodIn_app (goodIn_app (goodIn_app ggL_law_X8_isSound_k1 (goodIn_app ggL_law_X8_isSound_k2 (goodIn_app ggL_law_X8_isSound_k3 (goodIn_app ggL_law_X8_isSound_k4 (goodIn_app ggL_law_X8_isSound_k5 (goodIn_app ggL_law_X8_isSound_k6 (goodIn_app ggL_law_X8_isSound_k7 (goodIn_app ggL_law_X8_isSound_k8 (goodIn_app ggL_law_X8_isSound_k9 (goodIn_app ggL_law_X8_isSound_k10 ggL_law_X8_isSound_k11)))))))))) ggL_law_X8_isSound_k12) ggL_law_X8_isSound_k13) ggL_law_X8_isSound_k14) ggL_law_X8_isSound_k15) ggL_law_X8_isSound_k16) ggL_law_X8_isSound_k17) ggL_law_X8_isSound_k18) ggL_law_X8_isSound_k19) ggL_law_X8_isSound_k20)) (goodIn_sub (fun _ h => List.mem_append_left _ (List.mem_append_left _ (List.mem_append_left _ (List.mem_append_left _ (List.mem_append_left _ (List.mem_append_right _ h)))))) (by decide +kernel))
set_option maxRecDepth 20000 in
theorem gL_law_X8_isSound : GoodIn wsL_law (wsV RL 212 RX8 yX8_isSound wsX8_isSound) := goodIn_app (goodIn_of _ (by decide +kernel)) ggL_law_X8_isSound
set_option maxRecDepth 20000 in
theorem ggL_law_X15_isSound : GoodIn wsL_law wsX15_isSound := goodIn_r _ [1179] (by decide +kernel) (by decide +kernel)
set_option maxRecDepth 20000 in
theorem gL_law_X15_isSound : GoodIn wsL_law (wsV RL 215 RX15 yX15_isSound wsX15_isSound) := goodIn_app (goodIn_of _ (by decide +kernel)) ggL_law_X15_isSound
