set_option maxRecDepth 20000 in
theorem ggL_law_L_pass_k8 : GoodIn wsL_law wsL_pass_r8 := goodIn_r _ [83, 81, 80, 82, 763, 764, 765, 766, 767, 768, 769, 770, 771, 772, 773, 774, 775, 776, 777, 778, 779, 780, 781, 782] (by decide +kernel) (by decide +kernel)
set_option maxRecDepth 20000 in
theorem ggL_law_L_pass_k9 : GoodIn wsL_law wsL_pass_r9 := goodIn_r _ [783, 784, 785, 786, 787, 73, 788, 789, 790, 791] (by decide +kernel) (by decide +kernel)
set_option maxRecDepth 20000 in
theorem ggL_law_L_pass_k10 : GoodIn wsL_law wsX80 := goodIn_r _ [1180, 1181] (by decide +kernel) (by decide +kernel)
set_option maxRecDepth 20000 in
theorem ggL_law_L_pass_k11 : GoodIn wsL_law wsX70 := goodIn_r _ [1184, 1185, 1186, 1187, 1188, 1189, 1190, 1191, 1192, 1193, 1194, 1195, 1196, 1197] (by decide +kernel) (by decide +kernel)
set_option maxRecDepth 20000 in
theorem ggL_law_L_pass_k12 : GoodIn wsL_law wsX00 := goodIn_r _ [1218, 1219, 1220, 1221, 1222] (by decide +kernel) (by decide +kernel)
set_option maxRecDepth 20000 in
theorem ggL_law_L_pass_k13 : GoodIn wsL_law wsX30 := goodIn_r _ [1229, 1230] (by decide +kernel) (by decide +kernel)
set_option maxRecDepth 20000 in
theorem ggL_law_L_pass_k14 : GoodIn wsL_law wsX20 := goodIn_r _ [1207, 1208, 1209, 1210, 1211] (by decide +kernel) (by decide +kernel)
set_option maxRecDepth 20000 in
theorem ggL_law_L_pass_k15 : GoodIn wsL_law wsX40 := goodIn_r _ [1203, 1204, 1205, 1206] (by decide +kernel) (by decide +kernel)
set_option maxRecDepth 20000 in
theorem ggL_law_L_pass_k16 : GoodIn wsL_law wsX60 := goodIn_r _ [1223, 1224, 1225, 1226, 1227, 1228] (by decide +kernel) (by decide +kernel)
set_option maxRecDepth 20000 in
theorem ggL_law_L_pass_k17 : GoodIn wsL_law wsX50 := goodIn_r _ [1198, 1199, 1200, 1201, 1202] (by decide +kernel) (by decide +kernel)
set_option maxRecDepth 20000 in
theorem ggL_law_L_pass_k18 : GoodIn wsL_law wsX10 := goodIn_r _ [1212, 1213, 1214, 1215, 1216, 1217] (by decide +kernel) (by decide +kernel)
set_option maxRecDepth 20000 in
theorem ggL_law_L_pass : GoodIn wsL_law wsL_pass := goodIn_ca (goodIn_ca (goodIn_ca (goodIn_cons1 ggL_law_L_pass_k0 (goodIn_app (goodIn_app (goodIn_app (goodIn_app (goodIn_app (goodIn_app (goodIn_app (goodIn_app (goodIn_app (goodIn_app ggL_law_L_pass_k1 (goodIn_app ggL_law_L_pass_k2 (goodIn_app ggL_law_L_pass_k3 (goodIn_app ggL_law_L_pass_k4 (goodIn_app ggL_law_L_pass_k5 (goodIn_app ggL_law_L_pass_k6 (goodIn_app ggL_law_L_pass_k7 (goodIn_app ggL_law_L_pass_k8 ggL_law_L_pass_k9)))))))) ggL_law_L_pass_k10) ggL_law_L_pass_k11) ggL_law_L_pass_k12) ggL_law_L_pass_k13) ggL_law_L_pass_k14) ggL_law_L_pass_k15) ggL_law_L_pass_k16) ggL_law_L_pass_k17) ggL_law_L_pass_k18)) (goodIn_sub (fun _ h => List.mem_append_left _ (List.mem_append_left _ (List.mem_append_left _ (List.mem_append_left _ (List.mem_append_left _ (List.mem_append_right _ h)))))) (by decide +kernel))) (goodIn_sub (fun _ h => List.mem_append_right _ h) (by decide +kernel))) (goodIn_sub (fun _ h => List.mem_append_left _ (List.mem_append_left _ (List.mem_append_left _ (List.mem_append_right _ h)))) (by decide +kernel))
set_option maxRecDepth 20000 in
theorem gL_law_L_pass : GoodIn wsL_law (va_wsS RL 150 yL_pass wsL_pass) := goodIn_app (goodIn_of _ (by decide +kernel)) ggL_law_L_pass
set_option maxRecDepth 20000 in
theorem ggL_law_X15_pass_k0 : GoodIn wsL_law [.code yX15_pass cX15_pass 3 (some .int)] := goodIn_r _ [795] (by decide +kernel) (by decide +kernel)
set_option maxRecDepth 20000 in
theorem ggL_law_X15_pass_k1 : GoodIn wsL_law wsX15_pass_r1 := goodIn_r _ [111, 573, 182, 183, 5, 184, 185, 186, 187, 188, 189, 796, 797, 798, 110, 799, 118, 120, 800, 801, 258, 232, 259, 121] (by decide +kernel) (by decide +kernel)
set_option maxRecDepth 20000 in
theorem ggL_law_X15_pass_k2 : GoodIn wsL_law wsX15_pass_r2 := goodIn_r _ [802, 803, 119, 123, 804, 805, 131, 130, 806, 807, 808, 809, 125, 810, 811, 812, 126, 813, 191, 192, 117, 193, 194, 814] (by decide +kernel) (by decide +kernel)
set_option maxRecDepth 20000 in
theorem ggL_law_X15_pass_k3 : GoodIn wsL_law wsX15_pass_r3 := goodIn_r _ [335, 336, 337, 338, 339, 340, 341, 342, 343, 344, 345, 346, 347, 348, 349, 136, 815, 816, 817, 818, 819, 820, 821, 822] (by decide +kernel) (by decide +kernel)
set_option maxRecDepth 20000 in
theorem ggL_law_X15_pass_k4 : GoodIn wsL_law wsX15_pass_r4 := goodIn_r _ [216, 217, 823, 261, 262, 263, 824, 825, 826, 827, 828, 829, 830, 831, 832, 833, 834, 12, 13, 835, 836, 213, 214, 215] (by decide +kernel) (by decide +kernel)
set_option maxRecDepth 20000 in
theorem ggL_law_X15_pass_k5 : GoodIn wsL_law wsX15_pass_r5 := goodIn_r _ [218, 219, 220, 221, 222, 223, 224, 225, 226, 227, 228, 229, 135, 230, 231, 233, 234, 235, 236, 237, 238, 239, 240, 241] (by decide +kernel) (by decide +kernel)
set_option maxRecDepth 20000 in
theorem ggL_law_X15_pass_k6 : GoodIn wsL_law wsX15_pass_r6 := goodIn_r _ [242, 243, 244, 245, 246, 247, 248, 249, 250, 251, 252, 253, 254, 255, 256, 257, 260, 837, 838, 839, 840, 841, 122, 842] (by decide +kernel) (by decide +kernel)
set_option maxRecDepth 20000 in
theorem ggL_law_X15_pass_k7 : GoodIn wsL_law wsX15_pass_r7 := goodIn_r _ [843, 844, 845, 846, 847, 848, 124, 849, 850, 851, 129, 852, 853, 502, 503, 504, 505, 506, 507, 508, 509, 510, 511, 512] (by decide +kernel) (by decide +kernel)
set_option maxRecDepth 20000 in
theorem ggL_law_X15_pass_k8 : GoodIn wsL_law wsX15_pass_r8 := goodIn_r _ [513, 514, 515, 854, 517, 518, 519, 520, 855, 522, 523, 524, 525, 526, 527, 528, 529, 856, 857, 858, 859, 128, 127, 860] (by decide +kernel) (by decide +kernel)
set_option maxRecDepth 20000 in
theorem ggL_law_X15_pass_k9 : GoodIn wsL_law wsX15_pass_r9 := goodIn_r _ [861, 862, 863, 864, 865, 395, 866, 402, 867, 368, 369, 197, 370, 206, 868, 869, 870, 871, 872, 196, 198, 199, 200, 201] (by decide +kernel) (by decide +kernel)
set_option maxRecDepth 20000 in
theorem ggL_law_X15_pass_k10 : GoodIn wsL_law wsX15_pass_r10 := goodIn_r _ [202, 203, 204, 205, 207, 208, 209, 210, 211, 873, 364, 365, 366, 874, 875, 876, 877, 878, 879, 880, 881, 882, 883, 884] (by decide +kernel) (by decide +kernel)
set_option maxRecDepth 20000 in
theorem ggL_law_X15_pass_k11 : GoodIn wsL_law wsX15_pass_r11 := goodIn_r _ [885, 886, 887, 888, 889, 890, 891, 892, 893, 894, 895, 896, 897] (by decide +kernel) (by decide +kernel)
set_option maxRecDepth 20000 in
theorem ggL_law_X15_pass_k12 : GoodIn wsL_law wsX150 := goodIn_r _ [1182, 1183] (by decide +kernel) (by decide +kernel)
set_option maxRecDepth 20000 in
theorem ggL_law_X15_pass_k13 : GoodIn wsL_law wsX140 := goodIn_r _ [1231, 1232, 1233, 1234, 1235, 1236, 1237, 1238, 1239, 1240, 1241, 1242, 1243, 1244] (by decide +kernel) (by decide +kernel)
set_option maxRecDepth 20000 in
theorem ggL_law_X15_pass_k14 : GoodIn wsL_law wsX110 := goodIn_r _ [1249, 1250, 1251] (by decide +kernel) (by decide +kernel)
set_option maxRecDepth 20000 in
theorem ggL_law_X15_pass_k15 : GoodIn wsL_law wsX120 := goodIn_r _ [1256, 1257, 1258] (by decide +kernel) (by decide +kernel)
set_option maxRecDepth 20000 in
theorem ggL_law_X15_pass_k16 : GoodIn wsL_law wsX90 := goodIn_r _ [1263, 1264, 1265, 1266] (by decide +kernel) (by decide +kernel)
set_option maxRecDepth 20000 in
theorem ggL_law_X15_pass_k17 : GoodIn wsL_law wsJx4a65c0 := goodIn_r _ [1245, 1246, 1247] (by decide +kernel) (by decide +kernel)
set_option maxRecDepth 20000 in
theorem ggL_law_X15_pass_k18 : GoodIn wsL_law wsJ110 := goodIn_r _ [1271] (by decide +kernel) (by decide +kernel)
set_option maxRecDepth 20000 in
theorem ggL_law_X15_pass_k19 : GoodIn wsL_law wsX100 := goodIn_r _ [1252, 1253, 1254, 1255] (by decide +kernel) (by decide +kernel)
set_option maxRecDepth 20000 in
theorem ggL_law_X15_pass_k20 : GoodIn wsL_law wsX130 := goodIn_r _ [1267, 1268, 1269, 1270] (by decide +kernel) (by decide +kernel)
set_option maxRecDepth 20000 in
theorem ggL_law_X15_pass_k21 : GoodIn wsL_law wsJx354110 := goodIn_r _ [1259, 1260, 1261, 1262] (by decide +kernel) (by decide +kernel)
set_option maxRecDepth 20000 in
theorem ggL_law_X15_pass_k22 : GoodIn wsL_law wsJ60 := goodIn_r _ [1248] (by decide +kernel) (by decide +kernel)
set_option maxRecDepth 20000 in
theorem ggL_law_X15_pass : GoodIn wsL_law wsX15_pass := goodIn_cons1 ggL_law_X15_pass_k0 (goodIn_app (goodIn_app (goodIn_app (goodIn_app (goodIn_app (goodIn_app (goodIn_app (goodIn_app (goodIn_app (goodIn_app (goodIn_app (goodIn_app ggL_law_X15_pass_k1 (goodIn_app ggL_law_X15_pass_k2 (goodIn_app ggL_law_X15_pass_k3 (goodIn_app ggL_law_X15_pass_k4 (goodIn_app ggL_law_X15_pass_k5 (goodIn_app ggL_law_X15_pass_k6 (goodIn_app ggL_law_X15_pass_k7 (goodIn_app ggL_law_X15_pass_k8 (goodIn_app ggL_law_X15_pass_k9 (goodIn_app ggL_law_X15_pass_k10 ggL_law_X15_pass_k11)))))))))) ggL_law_X15_pass_k12) ggL_law_X15_pass_k13) ggL_law_X15_pass_k14) ggL_law_X15_pass_k15) ggL_law_X15_pass_k16) ggL_law_X15_pass_k17) ggL_law_X15_pass_k18) ggL_law_X15_pass_k19) ggL_law_X15_pass_k20) ggL_law_X15_pass_k21) ggL_law_X15_pass_k22)
set_option maxRecDepth 20000 in
theorem gL_law_X15_pass : GoodIn wsL_law (wsV RL 152 RX15 yX15_pass wsX15_pass) := goodIn_app (goodIn_of _ (by decide +kernel)) ggL_law_X15_pass
set_option maxRecDepth 20000 in
theorem ggL_law_X8_endSafe : GoodIn wsL_law wsX8_endSafe := goodIn_r _ [901, 17, 415, 1180, 1181, 1184, 1185, 1186, 1187, 1188, 1189, 1190, 1191, 1192, 1193, 1194, 1195, 1196, 1197] (by decide +kernel) (by decide +kernel)
set_option maxRecDepth 20000 in
theorem gL_law_X8_endSafe : GoodIn wsL_law (wsV RL 153 RX8 yX8_endSafe wsX8_endSafe) := goodIn_app (goodIn_of _ (by decide +kernel)) ggL_law_X8_endSafe
