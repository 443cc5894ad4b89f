set_option maxRecDepth 20000 in
theorem ggL_law_X15_endSafe : GoodIn wsL_law wsX15_endSafe := goodIn_r _ [905, 111, 423, 1182, 1183, 1231, 1232, 1233, 1234, 1235, 1236, 1237, 1238, 1239, 1240, 1241, 1242, 1243, 1244] (by decide +kernel) (by decide +kernel)
set_option maxRecDepth 20000 in
theorem gL_law_X15_endSafe : GoodIn wsL_law (wsV RL 157 RX15 yX15_endSafe wsX15_endSafe) := goodIn_app (goodIn_of _ (by decide +kernel)) ggL_law_X15_endSafe
set_option maxRecDepth 20000 in
theorem ggL_law_L_oxygen : GoodIn wsL_law wsL_oxygen := goodIn_ca (goodIn_ca (goodIn_r _ [908, 271, 909, 910, 911, 2, 912, 17, 159, 913, 277, 278, 279, 280, 281, 282, 283, 284, 285, 286, 1180, 1181, 1184, 1185, 1186, 1187, 1188, 1189, 1190, 1191, 1192, 1193, 1194, 1195, 1196, 1197, 1198, 1199, 1200, 1201, 1202] (by decide +kernel) (by decide +kernel)) (goodIn_sub (fun _ h => List.mem_append_left _ (List.mem_append_left _ (List.mem_append_left _ (List.mem_append_left _ (List.mem_append_left _ (List.mem_append_right _ h)))))) (by decide +kernel))) (goodIn_sub (fun _ h => List.mem_append_left _ (List.mem_append_left _ (List.mem_append_right _ h))) (by decide +kernel))
set_option maxRecDepth 20000 in
theorem gL_law_L_oxygen : GoodIn wsL_law (va_wsS RL 158 yL_oxygen wsL_oxygen) := goodIn_app (goodIn_of _ (by decide +kernel)) ggL_law_L_oxygen
set_option maxRecDepth 20000 in
theorem ggL_law_X15_oxygen_k0 : GoodIn wsL_law [.code yX15_oxygen cX15_oxygen 2 (some .int)] := goodIn_r _ [917] (by decide +kernel) (by decide +kernel)
set_option maxRecDepth 20000 in
theorem ggL_law_X15_oxygen_k1 : GoodIn wsL_law wsX15_oxygen_r1 := goodIn_r _ [111, 179, 362, 304, 305, 306, 5, 307, 190, 191, 192, 117, 193, 194, 182, 183, 184, 185, 186, 187, 188, 189, 334, 335] (by decide +kernel) (by decide +kernel)
set_option maxRecDepth 20000 in
theorem ggL_law_X15_oxygen_k2 : GoodIn wsL_law wsX15_oxygen_r2 := goodIn_r _ [336, 337, 338, 339, 340, 341, 342, 343, 344, 345, 346, 347, 348, 349, 136, 367, 368, 369, 197, 370, 206] (by decide +kernel) (by decide +kernel)
set_option maxRecDepth 20000 in
theorem ggL_law_X15_oxygen_k3 : GoodIn wsL_law wsX150 := goodIn_r _ [1182, 1183] (by decide +kernel) (by decide +kernel)
set_option maxRecDepth 20000 in
theorem ggL_law_X15_oxygen_k4 : GoodIn wsL_law wsX140 := goodIn_r _ [1231, 1232, 1233, 1234, 1235, 1236, 1237, 1238, 1239, 1240, 1241, 1242, 1243, 1244] (by decide +kernel) (by decide +kernel)
set_option maxRecDepth 20000 in
theorem ggL_law_X15_oxygen_k5 : GoodIn wsL_law wsJx4a65c0 := goodIn_r _ [1245, 1246, 1247] (by decide +kernel) (by decide +kernel)
set_option maxRecDepth 20000 in
theorem ggL_law_X15_oxygen_k6 : GoodIn wsL_law wsJ60 := goodIn_r _ [1248] (by decide +kernel) (by decide +kernel)
set_option maxRecDepth 20000 in
theorem ggL_law_X15_oxygen : GoodIn wsL_law wsX15_oxygen := goodIn_cons1 ggL_law_X15_oxygen_k0 (goodIn_app (goodIn_app (goodIn_app (goodIn_app (goodIn_app ggL_law_X15_oxygen_k1 ggL_law_X15_oxygen_k2) ggL_law_X15_oxygen_k3) ggL_law_X15_oxygen_k4) ggL_law_X15_oxygen_k5) ggL_law_X15_oxygen_k6)
set_option maxRecDepth 20000 in
theorem gL_law_X15_oxygen : GoodIn wsL_law (wsV RL 160 RX15 yX15_oxygen wsX15_oxygen) := goodIn_app (goodIn_of _ (by decide +kernel)) ggL_law_X15_oxygen
set_option maxRecDepth 20000 in
theorem ggL_law_L_carbon : GoodIn wsL_law wsL_carbon := goodIn_ca (goodIn_ca (goodIn_r _ [920, 271, 921, 922, 923, 2, 924, 17, 159, 925, 277, 278, 279, 280, 281, 282, 283, 284, 285, 286, 1180, 1181, 1184, 1185, 1186, 1187, 1188, 1189, 1190, 1191, 1192, 1193, 1194, 1195, 1196, 1197, 1198, 1199, 1200, 1201, 1202] (by decide +kernel) (by decide +kernel)) (goodIn_sub (fun _ h => List.mem_append_left _ (List.mem_append_left _ (List.mem_append_left _ (List.mem_append_left _ (List.mem_append_left _ (List.mem_append_right _ h)))))) (by decide +kernel))) (goodIn_sub (fun _ h => List.mem_append_left _ (List.mem_append_left _ (List.mem_append_right _ h))) (by decide +kernel))
set_option maxRecDepth 20000 in
theorem gL_law_L_carbon : GoodIn wsL_law (va_wsS RL 161 yL_carbon wsL_carbon) := goodIn_app (goodIn_of _ (by decide +kernel)) ggL_law_L_carbon
set_option maxRecDepth 20000 in
theorem ggL_law_X15_carbon_k0 : GoodIn wsL_law [.code yX15_carbon cX15_carbon 2 (some .int)] := goodIn_r _ [929] (by decide +kernel) (by decide +kernel)
set_option maxRecDepth 20000 in
theorem ggL_law_X15_carbon_k1 : GoodIn wsL_law wsX15_carbon_r1 := goodIn_r _ [111, 180, 362, 304, 305, 306, 5, 307, 179, 190, 191, 192, 117, 193, 194, 182, 183, 184, 185, 186, 187, 188, 189, 334] (by decide +kernel) (by decide +kernel)
set_option maxRecDepth 20000 in
theorem ggL_law_X15_carbon_k2 : GoodIn wsL_law wsX15_carbon_r2 := goodIn_r _ [335, 336, 337, 338, 339, 340, 341, 342, 343, 344, 345, 346, 347, 348, 349, 136, 367, 368, 369, 197, 370, 206] (by decide +kernel) (by decide +kernel)
set_option maxRecDepth 20000 in
theorem ggL_law_X15_carbon_k3 : GoodIn wsL_law wsX150 := goodIn_r _ [1182, 1183] (by decide +kernel) (by decide +kernel)
set_option maxRecDepth 20000 in
theorem ggL_law_X15_carbon_k4 : GoodIn wsL_law wsX140 := goodIn_r _ [1231, 1232, 1233, 1234, 1235, 1236, 1237, 1238, 1239, 1240, 1241, 1242, 1243, 1244] (by decide +kernel) (by decide +kernel)
set_option maxRecDepth 20000 in
theorem ggL_law_X15_carbon_k5 : GoodIn wsL_law wsJx4a65c0 := goodIn_r _ [1245, 1246, 1247] (by decide +kernel) (by decide +kernel)
set_option maxRecDepth 20000 in
theorem ggL_law_X15_carbon_k6 : GoodIn wsL_law wsJ60 := goodIn_r _ [1248] (by decide +kernel) (by decide +kernel)
set_option maxRecDepth 20000 in
theorem ggL_law_X15_carbon : GoodIn wsL_law wsX15_carbon := goodIn_cons1 ggL_law_X15_carbon_k0 (goodIn_app (goodIn_app (goodIn_app (goodIn_app (goodIn_app ggL_law_X15_carbon_k1 ggL_law_X15_carbon_k2) ggL_law_X15_carbon_k3) ggL_law_X15_carbon_k4) ggL_law_X15_carbon_k5) ggL_law_X15_carbon_k6)
set_option maxRecDepth 20000 in
theorem gL_law_X15_carbon : GoodIn wsL_law (wsV RL 163 RX15 yX15_carbon wsX15_carbon) := goodIn_app (goodIn_of _ (by decide +kernel)) ggL_law_X15_carbon
set_option maxRecDepth 20000 in
theorem ggL_law_X8_water : GoodIn wsL_law wsX8_water := goodIn_r _ [933, 17, 934, 1180, 1181, 1184, 1185, 1186, 1187, 1188, 1189, 1190, 1191, 1192, 1193, 1194, 1195, 1196, 1197] (by decide +kernel) (by decide +kernel)
set_option maxRecDepth 20000 in
theorem gL_law_X8_water : GoodIn wsL_law (wsV RL 164 RX8 yX8_water wsX8_water) := goodIn_app (goodIn_of _ (by decide +kernel)) ggL_law_X8_water
set_option maxRecDepth 20000 in
theorem ggL_law_X15_water : GoodIn wsL_law wsX15_water := goodIn_r _ [938, 111, 939, 1182, 1183, 1231, 1232, 1233, 1234, 1235, 1236, 1237, 1238, 1239, 1240, 1241, 1242, 1243, 1244] (by decide +kernel) (by decide +kernel)
set_option maxRecDepth 20000 in
theorem gL_law_X15_water : GoodIn wsL_law (wsV RL 167 RX15 yX15_water wsX15_water) := goodIn_app (goodIn_of _ (by decide +kernel)) ggL_law_X15_water
set_option maxRecDepth 20000 in
theorem ggL_law_X8_battery : GoodIn wsL_law wsX8_battery := goodIn_r _ [943, 17, 944, 1180, 1181, 1184, 1185, 1186, 1187, 1188, 1189, 1190, 1191, 1192, 1193, 1194, 1195, 1196, 1197] (by decide +kernel) (by decide +kernel)
set_option maxRecDepth 20000 in
theorem gL_law_X8_battery : GoodIn wsL_law (wsV RL 168 RX8 yX8_battery wsX8_battery) := goodIn_app (goodIn_of _ (by decide +kernel)) ggL_law_X8_battery
set_option maxRecDepth 20000 in
theorem ggL_law_X15_battery : GoodIn wsL_law wsX15_battery := goodIn_r _ [948, 111, 949, 1182, 1183, 1231, 1232, 1233, 1234, 1235, 1236, 1237, 1238, 1239, 1240, 1241, 1242, 1243, 1244] (by decide +kernel) (by decide +kernel)
set_option maxRecDepth 20000 in
theorem gL_law_X15_battery : GoodIn wsL_law (wsV RL 171 RX15 yX15_battery wsX15_battery) := goodIn_app (goodIn_of _ (by decide +kernel)) ggL_law_X15_battery
set_option maxRecDepth 20000 in
theorem ggL_law_L_whereIs : GoodIn wsL_law wsL_whereIs := goodIn_ca (goodIn_ca (goodIn_r _ [952, 271, 953, 954, 955, 2, 956, 17, 450, 482, 488, 483, 282, 283, 284, 285, 286, 1180, 1181, 1184, 1185, 1186, 1187, 1188, 1189, 1190, 1191, 1192, 1193, 1194, 1195, 1196, 1197, 1212, 1213, 1214, 1215, 1216, 1217] (by decide +kernel) (by decide +kernel)) (goodIn_sub (fun _ h => List.mem_append_left _ (List.mem_append_left _ (List.mem_append_left _ (List.mem_append_left _ (List.mem_append_left _ (List.mem_append_right _ h)))))) (by decide +kernel))) (goodIn_sub (fun _ h => List.mem_append_left _ (List.mem_append_left _ (List.mem_append_right _ h))) (by decide +kernel))
set_option maxRecDepth 20000 in
theorem gL_law_L_whereIs : GoodIn wsL_law (va_wsS RL 172 yL_whereIs wsL_whereIs) := goodIn_app (goodIn_of _ (by decide +kernel)) ggL_law_L_whereIs
set_option maxRecDepth 20000 in
theorem ggL_law_X15_whereIs_k0 : GoodIn wsL_law [.code yX15_whereIs cX15_whereIs 2 (some .int)] := goodIn_r _ [960] (by decide +kernel) (by decide +kernel)
set_option maxRecDepth 20000 in
theorem ggL_law_X15_whereIs_k1 : GoodIn wsL_law wsX15_whereIs_r1 := goodIn_r _ [111, 464, 497, 498, 543, 544, 545, 5, 546, 190, 191, 192, 117, 193, 194, 182, 183, 184, 185, 186, 187, 188, 189, 334] (by decide +kernel) (by decide +kernel)
set_option maxRecDepth 20000 in
theorem ggL_law_X15_whereIs_k2 : GoodIn wsL_law wsX15_whereIs_r2 := goodIn_r _ [335, 336, 337, 338, 339, 340, 341, 342, 343, 344, 345, 346, 347, 348, 349, 136] (by decide +kernel) (by decide +kernel)
set_option maxRecDepth 20000 in
theorem ggL_law_X15_whereIs_k3 : GoodIn wsL_law wsX150 := goodIn_r _ [1182, 1183] (by decide +kernel) (by decide +kernel)
set_option maxRecDepth 20000 in
theorem ggL_law_X15_whereIs_k4 : GoodIn wsL_law wsX140 := goodIn_r _ [1231, 1232, 1233, 1234, 1235, 1236, 1237, 1238, 1239, 1240, 1241, 1242, 1243, 1244] (by decide +kernel) (by decide +kernel)
set_option maxRecDepth 20000 in
theorem ggL_law_X15_whereIs_k5 : GoodIn wsL_law wsX120 := goodIn_r _ [1256, 1257, 1258] (by decide +kernel) (by decide +kernel)
