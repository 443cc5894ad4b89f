set_option maxRecDepth 20000 in
theorem ggL_law_X15_worst_k4 : GoodIn wsL_law wsX15_worst_r4 := goodIn_r _ [132, 133, 134, 135, 136, 137, 138, 139, 140, 141, 142, 143, 144, 145, 146, 1081, 1082, 1083, 1084, 216, 217, 194, 823, 261] (by decide +kernel) (by decide +kernel)
set_option maxRecDepth 20000 in
theorem ggL_law_X15_worst_k5 : GoodIn wsL_law wsX15_worst_r5 := goodIn_r _ [262, 263, 1085, 1086, 1087, 1088, 244, 245, 246, 247, 248, 249, 250, 251, 252, 253, 254, 255, 256, 257, 260, 226, 227, 228] (by decide +kernel) (by decide +kernel)
set_option maxRecDepth 20000 in
theorem ggL_law_X15_worst_k6 : GoodIn wsL_law wsX15_worst_r6 := goodIn_r _ [229, 230, 231, 233, 234, 235, 236, 237, 238, 239, 240, 241, 242, 243, 853, 502, 503, 504, 505, 506, 507, 508, 509, 510] (by decide +kernel) (by decide +kernel)
set_option maxRecDepth 20000 in
theorem ggL_law_X15_worst_k7 : GoodIn wsL_law wsX15_worst_r7 := goodIn_r _ [511, 512, 513, 514, 515, 854, 517, 518, 519, 520, 855, 522, 523, 524, 525, 526, 527, 528, 529, 1089, 309, 310, 311, 312] (by decide +kernel) (by decide +kernel)
set_option maxRecDepth 20000 in
theorem ggL_law_X15_worst_k8 : GoodIn wsL_law wsX15_worst_r8 := goodIn_r _ [313, 314, 836, 213, 214, 215, 218, 219, 220, 221, 222, 223, 224, 225, 1090, 397, 398, 399, 400, 401, 402, 403, 1091, 469] (by decide +kernel) (by decide +kernel)
set_option maxRecDepth 20000 in
theorem ggL_law_X15_worst_k9 : GoodIn wsL_law wsX15_worst_r9 := goodIn_r _ [470, 471, 472, 473, 474, 1092, 608, 609, 610, 611, 612, 613, 614, 1093, 1094, 1095, 1096, 1097, 1098, 1099, 1100, 1101, 797, 798] (by decide +kernel) (by decide +kernel)
set_option maxRecDepth 20000 in
theorem ggL_law_X15_worst_k10 : GoodIn wsL_law wsX15_worst_r10 := goodIn_r _ [799, 800, 801, 806, 807, 808, 809, 810, 811, 812, 813, 191, 192, 193, 814, 335, 336, 337, 338, 339, 340, 341, 342, 343] (by decide +kernel) (by decide +kernel)
set_option maxRecDepth 20000 in
theorem ggL_law_X15_worst_k11 : GoodIn wsL_law wsX15_worst_r11 := goodIn_r _ [344, 345, 346, 347, 348, 349, 815, 816, 817, 818, 819, 820, 821, 822, 824, 825, 826, 827, 828, 829, 830, 831, 832, 833] (by decide +kernel) (by decide +kernel)
set_option maxRecDepth 20000 in
theorem ggL_law_X15_worst_k12 : GoodIn wsL_law wsX15_worst_r12 := goodIn_r _ [834, 835, 837, 838, 839, 840, 841, 842, 845, 846, 847, 848, 856, 857, 858, 859, 860, 863, 864, 865, 866, 867, 368, 369] (by decide +kernel) (by decide +kernel)
set_option maxRecDepth 20000 in
theorem ggL_law_X15_worst_k13 : GoodIn wsL_law wsX15_worst_r13 := goodIn_r _ [197, 370, 206, 868, 869, 870, 871, 872, 196, 198, 199, 200, 201, 202, 203, 204, 205, 207, 208, 209, 210, 211, 873, 364] (by decide +kernel) (by decide +kernel)
set_option maxRecDepth 20000 in
theorem ggL_law_X15_worst_k14 : GoodIn wsL_law wsX15_worst_r14 := goodIn_r _ [365, 366, 874, 875, 876, 877, 880, 881, 882, 883, 886, 887, 888, 889, 890, 891, 892, 893, 894, 895, 896, 897, 190, 334] (by decide +kernel) (by decide +kernel)
set_option maxRecDepth 20000 in
theorem ggL_law_X15_worst_k15 : GoodIn wsL_law wsX150 := goodIn_r _ [1182, 1183] (by decide +kernel) (by decide +kernel)
set_option maxRecDepth 20000 in
theorem ggL_law_X15_worst_k16 : GoodIn wsL_law wsX140 := goodIn_r _ [1231, 1232, 1233, 1234, 1235, 1236, 1237, 1238, 1239, 1240, 1241, 1242, 1243, 1244] (by decide +kernel) (by decide +kernel)
set_option maxRecDepth 20000 in
theorem ggL_law_X15_worst_k17 : GoodIn wsL_law wsX100 := goodIn_r _ [1252, 1253, 1254, 1255] (by decide +kernel) (by decide +kernel)
set_option maxRecDepth 20000 in
theorem ggL_law_X15_worst_k18 : GoodIn wsL_law wsX110 := goodIn_r _ [1249, 1250, 1251] (by decide +kernel) (by decide +kernel)
set_option maxRecDepth 20000 in
theorem ggL_law_X15_worst_k19 : GoodIn wsL_law wsX120 := goodIn_r _ [1256, 1257, 1258] (by decide +kernel) (by decide +kernel)
set_option maxRecDepth 20000 in
theorem ggL_law_X15_worst_k20 : GoodIn wsL_law wsX130 := goodIn_r _ [1267, 1268, 1269, 1270] (by decide +kernel) (by decide +kernel)
set_option maxRecDepth 20000 in
theorem ggL_law_X15_worst_k21 : GoodIn wsL_law wsJx4a65c0 := goodIn_r _ [1245, 1246, 1247] (by decide +kernel) (by decide +kernel)
set_option maxRecDepth 20000 in
theorem ggL_law_X15_worst_k22 : GoodIn wsL_law wsJx354110 := goodIn_r _ [1259, 1260, 1261, 1262] (by decide +kernel) (by decide +kernel)
set_option maxRecDepth 20000 in
theorem ggL_law_X15_worst_k23 : GoodIn wsL_law wsX90 := goodIn_r _ [1263, 1264, 1265, 1266] (by decide +kernel) (by decide +kernel)
set_option maxRecDepth 20000 in
theorem ggL_law_X15_worst_k24 : GoodIn wsL_law wsJ110 := goodIn_r _ [1271] (by decide +kernel) (by decide +kernel)
set_option maxRecDepth 20000 in
theorem ggL_law_X15_worst_k25 : GoodIn wsL_law wsJ60 := goodIn_r _ [1248] (by decide +kernel) (by decide +kernel)
set_option maxRecDepth 20000 in
theorem ggL_law_X15_worst : GoodIn wsL_law wsX15_worst := goodIn_cons1 ggL_law_X15_worst_k0 (goodIn_app (goodIn_app (goodIn_app (goodIn_app (goodIn_app (goodIn_app (goodIn_app (goodIn_app (goodIn_app (goodIn_app (goodIn_app (goodIn_app ggL_law_X15_worst_k1 (goodIn_app ggL_law_X15_worst_k2 (goodIn_app ggL_law_X15_worst_k3 (goodIn_app ggL_law_X15_worst_k4 (goodIn_app ggL_law_X15_worst_k5 (goodIn_app ggL_law_X15_worst_k6 (goodIn_app ggL_law_X15_worst_k7 (goodIn_app ggL_law_X15_worst_k8 (goodIn_app ggL_law_X15_worst_k9 (goodIn_app ggL_law_X15_worst_k10 (goodIn_app ggL_law_X15_worst_k11 (goodIn_app ggL_law_X15_worst_k12 (goodIn_app ggL_law_X15_worst_k13 ggL_law_X15_worst_k14))))))))))))) ggL_law_X15_worst_k15) ggL_law_X15_worst_k16) ggL_law_X15_worst_k17) ggL_law_X15_worst_k18) ggL_law_X15_worst_k19) ggL_law_X15_worst_k20) ggL_law_X15_worst_k21) ggL_law_X15_worst_k22) ggL_law_X15_worst_k23) ggL_law_X15_worst_k24) ggL_law_X15_worst_k25)
set_option maxRecDepth 20000 in
theorem gL_law_X15_worst : GoodIn wsL_law (wsV RL 199 RX15 yX15_worst wsX15_worst) := goodIn_app (goodIn_of _ (by decide +kernel)) ggL_law_X15_worst
set_option maxRecDepth 20000 in
theorem ggL_law_X8_checksum : GoodIn wsL_law wsX8_checksum := goodIn_ca (goodIn_r _ [1116, 17, 159, 281, 1117, 913, 1118, 925, 1180, 1181, 1184, 1185, 1186, 1187, 1188, 1189, 1190, 1191, 1192, 1193, 1194, 1195, 1196, 1197, 1198, 1199, 1200, 1201, 1202] (by decide +kernel) (by decide +kernel)) (goodIn_sub (fun _ h => List.mem_append_left _ (List.mem_append_left _ (List.mem_append_left _ (List.mem_append_left _ (List.mem_append_left _ (List.mem_append_right _ h)))))) (by decide +kernel))
set_option maxRecDepth 20000 in
theorem gL_law_X8_checksum : GoodIn wsL_law (wsV RL 200 RX8 yX8_checksum wsX8_checksum) := goodIn_app (goodIn_of _ (by decide +kernel)) ggL_law_X8_checksum
set_option maxRecDepth 20000 in
theorem ggL_law_X15_checksum : GoodIn wsL_law wsX15_checksum := goodIn_r _ [1122, 111, 179, 1123, 362, 1124, 180, 190, 191, 192, 117, 193, 194, 334, 335, 336, 337, 338, 339, 340, 341, 342, 343, 344, 345, 346, 347, 348, 349, 136, 367, 368, 369, 197, 370, 206, 1182, 1183, 1231, 1232, 1233, 1234, 1235, 1236, 1237, 1238, 1239, 1240, 1241, 1242, 1243, 1244, 1245, 1246, 1247, 1248] (by decide +kernel) (by decide +kernel)
set_option maxRecDepth 20000 in
theorem gL_law_X15_checksum : GoodIn wsL_law (wsV RL 204 RX15 yX15_checksum wsX15_checksum) := goodIn_app (goodIn_of _ (by decide +kernel)) ggL_law_X15_checksum
set_option maxRecDepth 20000 in
theorem ggL_law_L_aliveShare : GoodIn wsL_law wsL_aliveShare := goodIn_ca (goodIn_ca (goodIn_r _ [1127, 645, 1128, 1129, 1130, 2, 1131, 650, 651, 17, 450, 482, 1034, 1035, 1036, 37, 1037, 455, 763, 1180, 1181, 1184, 1185, 1186, 1187, 1188, 1189, 1190, 1191, 1192, 1193, 1194, 1195, 1196, 1197, 1212, 1213, 1214, 1215, 1216, 1217] (by decide +kernel) (by decide +kernel)) (goodIn_sub (fun _ h => List.mem_append_left _ (List.mem_append_left _ (List.mem_append_left _ (List.mem_append_left _ (List.mem_append_left _ (List.mem_append_right _ h)))))) (by decide +kernel))) (goodIn_sub (fun _ h => List.mem_append_right _ h) (by decide +kernel))
set_option maxRecDepth 20000 in
theorem gL_law_L_aliveShare : GoodIn wsL_law (va_wsS RL 205 yL_aliveShare wsL_aliveShare) := goodIn_app (goodIn_of _ (by decide +kernel)) ggL_law_L_aliveShare
set_option maxRecDepth 20000 in
theorem ggL_law_X15_aliveShare_k0 : GoodIn wsL_law [.code yX15_aliveShare cX15_aliveShare 2 (some .float)] := goodIn_r _ [1135] (by decide +kernel) (by decide +kernel)
set_option maxRecDepth 20000 in
theorem ggL_law_X15_aliveShare_k1 : GoodIn wsL_law wsX15_aliveShare_r1 := goodIn_r _ [111, 464, 190, 191, 192, 117, 193, 194, 185, 186, 187, 5, 188, 189, 1136, 1098, 1099, 110, 1100, 123, 804, 805, 853, 502] (by decide +kernel) (by decide +kernel)
set_option maxRecDepth 20000 in
theorem ggL_law_X15_aliveShare_k2 : GoodIn wsL_law wsX15_aliveShare_r2 := goodIn_r _ [503, 504, 505, 506, 507, 508, 509, 510, 511, 512, 12, 13, 513, 514, 217, 515, 854, 517, 518, 519, 520, 855, 522, 523] (by decide +kernel) (by decide +kernel)
set_option maxRecDepth 20000 in
theorem ggL_law_X15_aliveShare_k3 : GoodIn wsL_law wsX15_aliveShare_r3 := goodIn_r _ [524, 525, 526, 527, 528, 529] (by decide +kernel) (by decide +kernel)
set_option maxRecDepth 20000 in
theorem ggL_law_X15_aliveShare_k4 : GoodIn wsL_law wsX150 := goodIn_r _ [1182, 1183] (by decide +kernel) (by decide +kernel)
set_option maxRecDepth 20000 in
theorem ggL_law_X15_aliveShare_k5 : GoodIn wsL_law wsX140 := goodIn_r _ [1231, 1232, 1233, 1234, 1235, 1236, 1237, 1238, 1239, 1240, 1241, 1242, 1243, 1244] (by decide +kernel) (by decide +kernel)
set_option maxRecDepth 20000 in
theorem ggL_law_X15_aliveShare_k6 : GoodIn wsL_law wsJx4a65c0 := goodIn_r _ [1245, 1246, 1247] (by decide +kernel) (by decide +kernel)
set_option maxRecDepth 20000 in
theorem ggL_law_X15_aliveShare_k7 : GoodIn wsL_law wsX120 := goodIn_r _ [1256, 1257, 1258] (by decide +kernel) (by decide +kernel)
set_option maxRecDepth 20000 in
theorem ggL_law_X15_aliveShare_k8 : GoodIn wsL_law wsJx354110 := goodIn_r _ [1259, 1260, 1261, 1262] (by decide +kernel) (by decide +kernel)
set_option maxRecDepth 20000 in
theorem ggL_law_X15_aliveShare : GoodIn wsL_law wsX15_aliveShare := goodIn_cons1 ggL_law_X15_aliveShare_k0 (goodIn_app (goodIn_app (goodIn_app (goodIn_app (goodIn_app (goodIn_app ggL_law_X15_aliveShare_k1 (goodIn_app ggL_law_X15_aliveShare_k2 ggL_law_X15_aliveShare_k3)) ggL_law_X15_aliveShare_k4) ggL_law_X15_aliveShare_k5) ggL_law_X15_aliveShare_k6) ggL_law_X15_aliveShare_k7) ggL_law_X15_aliveShare_k8)
