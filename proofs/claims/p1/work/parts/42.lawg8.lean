set_option maxRecDepth 20000 in
theorem ggL_law_X15_whereIs_k6 : GoodIn wsL_law wsJx4a65c0 := goodIn_r _ [1245, 1246, 1247] (by decide +kernel) (by decide +kernel)
set_option maxRecDepth 20000 in
theorem ggL_law_X15_whereIs : GoodIn wsL_law wsX15_whereIs := goodIn_cons1 ggL_law_X15_whereIs_k0 (goodIn_app (goodIn_app (goodIn_app (goodIn_app (goodIn_app ggL_law_X15_whereIs_k1 ggL_law_X15_whereIs_k2) ggL_law_X15_whereIs_k3) ggL_law_X15_whereIs_k4) ggL_law_X15_whereIs_k5) ggL_law_X15_whereIs_k6)
set_option maxRecDepth 20000 in
theorem gL_law_X15_whereIs : GoodIn wsL_law (wsV RL 174 RX15 yX15_whereIs wsX15_whereIs) := goodIn_app (goodIn_of _ (by decide +kernel)) ggL_law_X15_whereIs
set_option maxRecDepth 20000 in
theorem ggL_law_L_distance : GoodIn wsL_law wsL_distance := goodIn_ca (goodIn_ca (goodIn_r _ [963, 271, 964, 965, 966, 2, 967, 17, 589, 622, 623, 968, 282, 283, 284, 285, 286, 1180, 1181, 1184, 1185, 1186, 1187, 1188, 1189, 1190, 1191, 1192, 1193, 1194, 1195, 1196, 1197, 1223, 1224, 1225, 1226, 1227, 1228] (by decide +kernel) (by decide +kernel)) (goodIn_sub (fun _ h => List.mem_append_left _ (List.mem_append_left _ (List.mem_append_left _ (List.mem_append_left _ (List.mem_append_left _ (List.mem_append_right _ h)))))) (by decide +kernel))) (goodIn_sub (fun _ h => List.mem_append_left _ (List.mem_append_left _ (List.mem_append_right _ h))) (by decide +kernel))
set_option maxRecDepth 20000 in
theorem gL_law_L_distance : GoodIn wsL_law (va_wsS RL 175 yL_distance wsL_distance) := goodIn_app (goodIn_of _ (by decide +kernel)) ggL_law_L_distance
set_option maxRecDepth 20000 in
theorem ggL_law_X15_distance_k0 : GoodIn wsL_law [.code yX15_distance cX15_distance 2 (some .int)] := goodIn_r _ [972] (by decide +kernel) (by decide +kernel)
set_option maxRecDepth 20000 in
theorem ggL_law_X15_distance_k1 : GoodIn wsL_law wsX15_distance_r1 := goodIn_r _ [111, 603, 633, 634, 638, 639, 640, 5, 641, 190, 191, 192, 117, 193, 194, 182, 183, 184, 185, 186, 187, 188, 189, 334] (by decide +kernel) (by decide +kernel)
set_option maxRecDepth 20000 in
theorem ggL_law_X15_distance_k2 : GoodIn wsL_law wsX15_distance_r2 := goodIn_r _ [335, 336, 337, 338, 339, 340, 341, 342, 343, 344, 345, 346, 347, 348, 349, 136] (by decide +kernel) (by decide +kernel)
set_option maxRecDepth 20000 in
theorem ggL_law_X15_distance_k3 : GoodIn wsL_law wsX150 := goodIn_r _ [1182, 1183] (by decide +kernel) (by decide +kernel)
set_option maxRecDepth 20000 in
theorem ggL_law_X15_distance_k4 : GoodIn wsL_law wsX140 := goodIn_r _ [1231, 1232, 1233, 1234, 1235, 1236, 1237, 1238, 1239, 1240, 1241, 1242, 1243, 1244] (by decide +kernel) (by decide +kernel)
set_option maxRecDepth 20000 in
theorem ggL_law_X15_distance_k5 : GoodIn wsL_law wsX130 := goodIn_r _ [1267, 1268, 1269, 1270] (by decide +kernel) (by decide +kernel)
set_option maxRecDepth 20000 in
theorem ggL_law_X15_distance_k6 : GoodIn wsL_law wsJx4a65c0 := goodIn_r _ [1245, 1246, 1247] (by decide +kernel) (by decide +kernel)
set_option maxRecDepth 20000 in
theorem ggL_law_X15_distance : GoodIn wsL_law wsX15_distance := goodIn_cons1 ggL_law_X15_distance_k0 (goodIn_app (goodIn_app (goodIn_app (goodIn_app (goodIn_app ggL_law_X15_distance_k1 ggL_law_X15_distance_k2) ggL_law_X15_distance_k3) ggL_law_X15_distance_k4) ggL_law_X15_distance_k5) ggL_law_X15_distance_k6)
set_option maxRecDepth 20000 in
theorem gL_law_X15_distance : GoodIn wsL_law (wsV RL 177 RX15 yX15_distance wsX15_distance) := goodIn_app (goodIn_of _ (by decide +kernel)) ggL_law_X15_distance
set_option maxRecDepth 20000 in
theorem ggL_law_L_isOn : GoodIn wsL_law wsL_isOn := goodIn_ca (goodIn_ca (goodIn_r _ [975, 271, 976, 977, 978, 2, 979, 17, 378, 414, 417, 282, 283, 284, 285, 286, 1180, 1181, 1184, 1185, 1186, 1187, 1188, 1189, 1190, 1191, 1192, 1193, 1194, 1195, 1196, 1197, 1207, 1208, 1209, 1210, 1211] (by decide +kernel) (by decide +kernel)) (goodIn_sub (fun _ h => List.mem_append_left _ (List.mem_append_left _ (List.mem_append_left _ (List.mem_append_left _ (List.mem_append_left _ (List.mem_append_right _ h)))))) (by decide +kernel))) (goodIn_sub (fun _ h => List.mem_append_left _ (List.mem_append_left _ (List.mem_append_right _ h))) (by decide +kernel))
set_option maxRecDepth 20000 in
theorem gL_law_L_isOn : GoodIn wsL_law (va_wsS RL 178 yL_isOn wsL_isOn) := goodIn_app (goodIn_of _ (by decide +kernel)) ggL_law_L_isOn
set_option maxRecDepth 20000 in
theorem ggL_law_X15_isOn_k0 : GoodIn wsL_law [.code yX15_isOn cX15_isOn 2 (some .boolean)] := goodIn_r _ [983] (by decide +kernel) (by decide +kernel)
set_option maxRecDepth 20000 in
theorem ggL_law_X15_isOn_k1 : GoodIn wsL_law wsX15_isOn_r1 := goodIn_r _ [111, 392, 422, 425, 426, 427, 428, 5, 429, 190, 191, 192, 117, 193, 194, 182, 183, 184, 185, 186, 187, 188, 189, 334] (by decide +kernel) (by decide +kernel)
set_option maxRecDepth 20000 in
theorem ggL_law_X15_isOn_k2 : GoodIn wsL_law wsX15_isOn_r2 := goodIn_r _ [335, 336, 337, 338, 339, 340, 341, 342, 343, 344, 345, 346, 347, 348, 349, 136] (by decide +kernel) (by decide +kernel)
set_option maxRecDepth 20000 in
theorem ggL_law_X15_isOn_k3 : GoodIn wsL_law wsX150 := goodIn_r _ [1182, 1183] (by decide +kernel) (by decide +kernel)
set_option maxRecDepth 20000 in
theorem ggL_law_X15_isOn_k4 : GoodIn wsL_law wsX140 := goodIn_r _ [1231, 1232, 1233, 1234, 1235, 1236, 1237, 1238, 1239, 1240, 1241, 1242, 1243, 1244] (by decide +kernel) (by decide +kernel)
set_option maxRecDepth 20000 in
theorem ggL_law_X15_isOn_k5 : GoodIn wsL_law wsX100 := goodIn_r _ [1252, 1253, 1254, 1255] (by decide +kernel) (by decide +kernel)
set_option maxRecDepth 20000 in
theorem ggL_law_X15_isOn_k6 : GoodIn wsL_law wsJx4a65c0 := goodIn_r _ [1245, 1246, 1247] (by decide +kernel) (by decide +kernel)
set_option maxRecDepth 20000 in
theorem ggL_law_X15_isOn : GoodIn wsL_law wsX15_isOn := goodIn_cons1 ggL_law_X15_isOn_k0 (goodIn_app (goodIn_app (goodIn_app (goodIn_app (goodIn_app ggL_law_X15_isOn_k1 ggL_law_X15_isOn_k2) ggL_law_X15_isOn_k3) ggL_law_X15_isOn_k4) ggL_law_X15_isOn_k5) ggL_law_X15_isOn_k6)
set_option maxRecDepth 20000 in
theorem gL_law_X15_isOn : GoodIn wsL_law (wsV RL 180 RX15 yX15_isOn wsX15_isOn) := goodIn_app (goodIn_of _ (by decide +kernel)) ggL_law_X15_isOn
set_option maxRecDepth 20000 in
theorem ggL_law_X8_isSafe : GoodIn wsL_law wsX8_isSafe := goodIn_r _ [987, 17, 415, 1180, 1181, 1184, 1185, 1186, 1187, 1188, 1189, 1190, 1191, 1192, 1193, 1194, 1195, 1196, 1197] (by decide +kernel) (by decide +kernel)
set_option maxRecDepth 20000 in
theorem gL_law_X8_isSafe : GoodIn wsL_law (wsV RL 181 RX8 yX8_isSafe wsX8_isSafe) := goodIn_app (goodIn_of _ (by decide +kernel)) ggL_law_X8_isSafe
set_option maxRecDepth 20000 in
theorem ggL_law_X15_isSafe : GoodIn wsL_law wsX15_isSafe := goodIn_r _ [991, 111, 423, 1182, 1183, 1231, 1232, 1233, 1234, 1235, 1236, 1237, 1238, 1239, 1240, 1241, 1242, 1243, 1244] (by decide +kernel) (by decide +kernel)
set_option maxRecDepth 20000 in
theorem gL_law_X15_isSafe : GoodIn wsL_law (wsV RL 184 RX15 yX15_isSafe wsX15_isSafe) := goodIn_app (goodIn_of _ (by decide +kernel)) ggL_law_X15_isSafe
set_option maxRecDepth 20000 in
theorem ggL_law_X8_events : GoodIn wsL_law wsX8_events := goodIn_r _ [995, 17, 996, 997, 1180, 1181, 1184, 1185, 1186, 1187, 1188, 1189, 1190, 1191, 1192, 1193, 1194, 1195, 1196, 1197, 1229, 1230] (by decide +kernel) (by decide +kernel)
set_option maxRecDepth 20000 in
theorem gL_law_X8_events : GoodIn wsL_law (wsV RL 185 RX8 yX8_events wsX8_events) := goodIn_app (goodIn_of _ (by decide +kernel)) ggL_law_X8_events
set_option maxRecDepth 20000 in
theorem ggL_law_X15_events : GoodIn wsL_law wsX15_events := goodIn_r _ [1001, 111, 1002, 190, 191, 192, 117, 193, 194, 1182, 1183, 1231, 1232, 1233, 1234, 1235, 1236, 1237, 1238, 1239, 1240, 1241, 1242, 1243, 1244, 1245, 1246, 1247] (by decide +kernel) (by decide +kernel)
set_option maxRecDepth 20000 in
theorem gL_law_X15_events : GoodIn wsL_law (wsV RL 188 RX15 yX15_events wsX15_events) := goodIn_app (goodIn_of _ (by decide +kernel)) ggL_law_X15_events
set_option maxRecDepth 20000 in
theorem ggL_law_L_eventAt : GoodIn wsL_law wsL_eventAt := goodIn_ca (goodIn_ca (goodIn_r _ [1005, 271, 1006, 1007, 1008, 2, 1009, 17, 996, 997, 1010, 282, 283, 284, 285, 286, 1180, 1181, 1184, 1185, 1186, 1187, 1188, 1189, 1190, 1191, 1192, 1193, 1194, 1195, 1196, 1197, 1229, 1230] (by decide +kernel) (by decide +kernel)) (goodIn_sub (fun _ h => List.mem_append_left _ (List.mem_append_left _ (List.mem_append_left _ (List.mem_append_left _ (List.mem_append_left _ (List.mem_append_right _ h)))))) (by decide +kernel))) (goodIn_sub (fun _ h => List.mem_append_left _ (List.mem_append_left _ (List.mem_append_right _ h))) (by decide +kernel))
set_option maxRecDepth 20000 in
theorem gL_law_L_eventAt : GoodIn wsL_law (va_wsS RL 189 yL_eventAt wsL_eventAt) := goodIn_app (goodIn_of _ (by decide +kernel)) ggL_law_L_eventAt
set_option maxRecDepth 20000 in
theorem ggL_law_X15_eventAt_k0 : GoodIn wsL_law [.code yX15_eventAt cX15_eventAt 2 (some .char)] := goodIn_r _ [1014] (by decide +kernel) (by decide +kernel)
set_option maxRecDepth 20000 in
theorem ggL_law_X15_eventAt_k1 : GoodIn wsL_law wsX15_eventAt_r1 := goodIn_r _ [111, 1002, 189, 1015, 190, 191, 192, 117, 193, 194, 182, 183, 5, 184, 334, 335, 336, 337, 338, 339, 340, 341, 342, 343] (by decide +kernel) (by decide +kernel)
set_option maxRecDepth 20000 in
theorem ggL_law_X15_eventAt_k2 : GoodIn wsL_law wsX15_eventAt_r2 := goodIn_r _ [344, 345, 346, 347, 348, 349, 136, 1016, 1017, 1018, 826, 1019, 835, 1020, 1021, 1022, 1023] (by decide +kernel) (by decide +kernel)
set_option maxRecDepth 20000 in
theorem ggL_law_X15_eventAt_k3 : GoodIn wsL_law wsX150 := goodIn_r _ [1182, 1183] (by decide +kernel) (by decide +kernel)
set_option maxRecDepth 20000 in
theorem ggL_law_X15_eventAt_k4 : GoodIn wsL_law wsX140 := goodIn_r _ [1231, 1232, 1233, 1234, 1235, 1236, 1237, 1238, 1239, 1240, 1241, 1242, 1243, 1244] (by decide +kernel) (by decide +kernel)
