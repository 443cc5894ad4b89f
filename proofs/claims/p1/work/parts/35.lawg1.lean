set_option maxRecDepth 20000 in
theorem ggL_law_L_addRoom : GoodIn wsL_law wsL_addRoom := goodIn_ca (goodIn_ca (goodIn_ca (goodIn_r _ [150, 151, 152, 153, 154, 155, 2, 156, 157, 158, 17, 159, 160, 161, 162, 163, 164, 165, 166, 167, 168, 25, 169, 170, 171, 172, 173, 174, 59, 1180, 1181, 1184, 1185, 1186, 1187, 1188, 1189, 1190, 1191, 1192, 1193, 1194, 1195, 1196, 1197, 1198, 1199, 1200, 1201, 1202] (by decide +kernel) (by decide +kernel)) (goodIn_sub (fun _ h => List.mem_append_left _ (List.mem_append_left _ (List.mem_append_left _ (List.mem_append_left _ (List.mem_append_left _ (List.mem_append_right _ h)))))) (by decide +kernel))) (goodIn_sub (fun _ h => List.mem_append_left _ (List.mem_append_left _ (List.mem_append_left _ (List.mem_append_left _ (List.mem_append_right _ h))))) (by decide +kernel))) (goodIn_sub (fun _ h => List.mem_append_left _ (List.mem_append_left _ (List.mem_append_left _ (List.mem_append_right _ h)))) (by decide +kernel))
set_option maxRecDepth 20000 in
theorem gL_law_L_addRoom : GoodIn wsL_law (va_wsS RL 99 yL_addRoom wsL_addRoom) := goodIn_app (goodIn_of _ (by decide +kernel)) ggL_law_L_addRoom
set_option maxRecDepth 20000 in
theorem ggL_law_X15_addRoom_k0 : GoodIn wsL_law [.code yX15_addRoom cX15_addRoom 2 (some .int)] := goodIn_r _ [178] (by decide +kernel) (by decide +kernel)
set_option maxRecDepth 20000 in
theorem ggL_law_X15_addRoom_k1 : GoodIn wsL_law wsX15_addRoom_r1 := goodIn_r _ [111, 179, 180, 181, 182, 183, 5, 184, 185, 186, 187, 188, 189, 190, 191, 192, 117, 193, 194, 195, 196, 197, 198, 199] (by decide +kernel) (by decide +kernel)
set_option maxRecDepth 20000 in
theorem ggL_law_X15_addRoom_k2 : GoodIn wsL_law wsX15_addRoom_r2 := goodIn_r _ [200, 201, 202, 203, 204, 205, 206, 207, 208, 209, 210, 211, 12, 13, 212, 213, 214, 215, 216, 217, 136, 218, 219, 220] (by decide +kernel) (by decide +kernel)
set_option maxRecDepth 20000 in
theorem ggL_law_X15_addRoom_k3 : GoodIn wsL_law wsX15_addRoom_r3 := goodIn_r _ [221, 222, 223, 224, 225, 226, 227, 228, 229, 135, 230, 231, 232, 233, 234, 235, 236, 237, 238, 239, 240, 241, 242, 243] (by decide +kernel) (by decide +kernel)
set_option maxRecDepth 20000 in
theorem ggL_law_X15_addRoom_k4 : GoodIn wsL_law wsX15_addRoom_r4 := goodIn_r _ [244, 245, 246, 247, 248, 249, 250, 251, 252, 253, 254, 255, 256, 257, 258, 259, 260, 261, 262, 263] (by decide +kernel) (by decide +kernel)
set_option maxRecDepth 20000 in
theorem ggL_law_X15_addRoom_k5 : GoodIn wsL_law wsX150 := goodIn_r _ [1182, 1183] (by decide +kernel) (by decide +kernel)
set_option maxRecDepth 20000 in
theorem ggL_law_X15_addRoom_k6 : GoodIn wsL_law wsX140 := goodIn_r _ [1231, 1232, 1233, 1234, 1235, 1236, 1237, 1238, 1239, 1240, 1241, 1242, 1243, 1244] (by decide +kernel) (by decide +kernel)
set_option maxRecDepth 20000 in
theorem ggL_law_X15_addRoom_k7 : GoodIn wsL_law wsJx4a65c0 := goodIn_r _ [1245, 1246, 1247] (by decide +kernel) (by decide +kernel)
set_option maxRecDepth 20000 in
theorem ggL_law_X15_addRoom_k8 : GoodIn wsL_law wsJ60 := goodIn_r _ [1248] (by decide +kernel) (by decide +kernel)
set_option maxRecDepth 20000 in
theorem ggL_law_X15_addRoom : GoodIn wsL_law wsX15_addRoom := goodIn_cons1 ggL_law_X15_addRoom_k0 (goodIn_app (goodIn_app (goodIn_app (goodIn_app (goodIn_app ggL_law_X15_addRoom_k1 (goodIn_app ggL_law_X15_addRoom_k2 (goodIn_app ggL_law_X15_addRoom_k3 ggL_law_X15_addRoom_k4))) ggL_law_X15_addRoom_k5) ggL_law_X15_addRoom_k6) ggL_law_X15_addRoom_k7) ggL_law_X15_addRoom_k8)
set_option maxRecDepth 20000 in
theorem gL_law_X15_addRoom : GoodIn wsL_law (wsV RL 104 RX15 yX15_addRoom wsX15_addRoom) := goodIn_app (goodIn_of _ (by decide +kernel)) ggL_law_X15_addRoom
set_option maxRecDepth 20000 in
theorem ggL_law_X15_thrown : GoodIn wsL_law wsX15_thrown := goodIn_r _ [267, 189, 1182, 1183] (by decide +kernel) (by decide +kernel)
set_option maxRecDepth 20000 in
theorem gL_law_X15_thrown : GoodIn wsL_law (wsV RL 105 RX15 yX15_thrown wsX15_thrown) := goodIn_app (goodIn_of _ (by decide +kernel)) ggL_law_X15_thrown
set_option maxRecDepth 20000 in
theorem ggL_law_L_addHatch_k0 : GoodIn wsL_law [.codeWith yL_addHatch cL_addHatch 5 (some .int) [(0, 10, 13, 21), (0, 10, 17, 13), (0, 10, 21, 15)]] := goodIn_r _ [270] (by decide +kernel) (by decide +kernel)
set_option maxRecDepth 20000 in
theorem ggL_law_L_addHatch_k1 : GoodIn wsL_law wsL_addHatch_r1 := goodIn_r _ [271, 151, 152, 272, 273, 274, 2, 275, 164, 165, 157, 158, 17, 276, 277, 278, 279, 280, 159, 281, 282, 283, 284, 285] (by decide +kernel) (by decide +kernel)
set_option maxRecDepth 20000 in
theorem ggL_law_L_addHatch_k2 : GoodIn wsL_law wsL_addHatch_r2 := goodIn_r _ [286, 287, 288, 289, 29, 290, 291, 292, 293, 294, 295, 65, 66, 68] (by decide +kernel) (by decide +kernel)
set_option maxRecDepth 20000 in
theorem ggL_law_L_addHatch_k3 : GoodIn wsL_law wsX80 := goodIn_r _ [1180, 1181] (by decide +kernel) (by decide +kernel)
set_option maxRecDepth 20000 in
theorem ggL_law_L_addHatch_k4 : GoodIn wsL_law wsX70 := goodIn_r _ [1184, 1185, 1186, 1187, 1188, 1189, 1190, 1191, 1192, 1193, 1194, 1195, 1196, 1197] (by decide +kernel) (by decide +kernel)
set_option maxRecDepth 20000 in
theorem ggL_law_L_addHatch_k5 : GoodIn wsL_law wsX50 := goodIn_r _ [1198, 1199, 1200, 1201, 1202] (by decide +kernel) (by decide +kernel)
set_option maxRecDepth 20000 in
theorem ggL_law_L_addHatch_k6 : GoodIn wsL_law wsX40 := goodIn_r _ [1203, 1204, 1205, 1206] (by decide +kernel) (by decide +kernel)
set_option maxRecDepth 20000 in
theorem ggL_law_L_addHatch : GoodIn wsL_law wsL_addHatch := goodIn_ca (goodIn_ca (goodIn_ca (goodIn_ca (goodIn_cons1 ggL_law_L_addHatch_k0 (goodIn_app (goodIn_app (goodIn_app (goodIn_app (goodIn_app ggL_law_L_addHatch_k1 ggL_law_L_addHatch_k2) ggL_law_L_addHatch_k3) ggL_law_L_addHatch_k4) ggL_law_L_addHatch_k5) ggL_law_L_addHatch_k6)) (goodIn_sub (fun _ h => List.mem_append_left _ (List.mem_append_left _ (List.mem_append_left _ (List.mem_append_left _ (List.mem_append_left _ (List.mem_append_right _ h)))))) (by decide +kernel))) (goodIn_sub (fun _ h => List.mem_append_left _ (List.mem_append_left _ (List.mem_append_left _ (List.mem_append_right _ h)))) (by decide +kernel))) (goodIn_sub (fun _ h => List.mem_append_left _ (List.mem_append_left _ (List.mem_append_left _ (List.mem_append_left _ (List.mem_append_right _ h))))) (by decide +kernel))) (goodIn_sub (fun _ h => List.mem_append_left _ (List.mem_append_left _ (List.mem_append_right _ h))) (by decide +kernel))
set_option maxRecDepth 20000 in
theorem gL_law_L_addHatch : GoodIn wsL_law (va_wsS RL 109 yL_addHatch wsL_addHatch) := goodIn_app (goodIn_of _ (by decide +kernel)) ggL_law_L_addHatch
set_option maxRecDepth 20000 in
theorem ggL_law_X15_addHatch_k0 : GoodIn wsL_law [.code yX15_addHatch cX15_addHatch 3 (some .int)] := goodIn_r _ [299] (by decide +kernel) (by decide +kernel)
set_option maxRecDepth 20000 in
theorem ggL_law_X15_addHatch_k1 : GoodIn wsL_law wsX15_addHatch_r1 := goodIn_r _ [111, 300, 301, 302, 303, 304, 305, 306, 5, 307, 179, 190, 191, 192, 117, 193, 194, 182, 183, 184, 185, 186, 187, 188] (by decide +kernel) (by decide +kernel)
set_option maxRecDepth 20000 in
theorem ggL_law_X15_addHatch_k2 : GoodIn wsL_law wsX15_addHatch_r2 := goodIn_r _ [189, 308, 309, 310, 311, 12, 13, 312, 313, 314, 212, 213, 214, 215, 216, 217, 136, 218, 219, 220, 221, 222, 223, 224] (by decide +kernel) (by decide +kernel)
set_option maxRecDepth 20000 in
theorem ggL_law_X15_addHatch_k3 : GoodIn wsL_law wsX15_addHatch_r3 := goodIn_r _ [225, 226, 227, 228, 229, 135, 230, 231, 232, 233, 234, 235, 236, 237, 238, 239, 240, 241, 242, 243, 244, 245, 246, 247] (by decide +kernel) (by decide +kernel)
set_option maxRecDepth 20000 in
theorem ggL_law_X15_addHatch_k4 : GoodIn wsL_law wsX15_addHatch_r4 := goodIn_r _ [248, 249, 250, 251, 252, 253, 254, 255, 256, 257, 258, 259, 260, 261, 262, 263] (by decide +kernel) (by decide +kernel)
set_option maxRecDepth 20000 in
theorem ggL_law_X15_addHatch_k5 : GoodIn wsL_law wsX150 := goodIn_r _ [1182, 1183] (by decide +kernel) (by decide +kernel)
set_option maxRecDepth 20000 in
theorem ggL_law_X15_addHatch_k6 : GoodIn wsL_law wsX140 := goodIn_r _ [1231, 1232, 1233, 1234, 1235, 1236, 1237, 1238, 1239, 1240, 1241, 1242, 1243, 1244] (by decide +kernel) (by decide +kernel)
set_option maxRecDepth 20000 in
theorem ggL_law_X15_addHatch_k7 : GoodIn wsL_law wsX110 := goodIn_r _ [1249, 1250, 1251] (by decide +kernel) (by decide +kernel)
set_option maxRecDepth 20000 in
theorem ggL_law_X15_addHatch_k8 : GoodIn wsL_law wsJx4a65c0 := goodIn_r _ [1245, 1246, 1247] (by decide +kernel) (by decide +kernel)
set_option maxRecDepth 20000 in
theorem ggL_law_X15_addHatch : GoodIn wsL_law wsX15_addHatch := goodIn_cons1 ggL_law_X15_addHatch_k0 (goodIn_app (goodIn_app (goodIn_app (goodIn_app (goodIn_app ggL_law_X15_addHatch_k1 (goodIn_app ggL_law_X15_addHatch_k2 (goodIn_app ggL_law_X15_addHatch_k3 ggL_law_X15_addHatch_k4))) ggL_law_X15_addHatch_k5) ggL_law_X15_addHatch_k6) ggL_law_X15_addHatch_k7) ggL_law_X15_addHatch_k8)
set_option maxRecDepth 20000 in
theorem gL_law_X15_addHatch : GoodIn wsL_law (wsV RL 112 RX15 yX15_addHatch wsX15_addHatch) := goodIn_app (goodIn_of _ (by decide +kernel)) ggL_law_X15_addHatch
set_option maxRecDepth 20000 in
theorem ggL_law_L_setHatch : GoodIn wsL_law wsL_setHatch := goodIn_ca (goodIn_ca (goodIn_r _ [317, 271, 318, 319, 320, 2, 321, 17, 276, 322, 323, 282, 283, 284, 285, 286, 1180, 1181, 1184, 1185, 1186, 1187, 1188, 1189, 1190, 1191, 1192, 1193, 1194, 1195, 1196, 1197, 1203, 1204, 1205, 1206] (by decide +kernel) (by decide +kernel)) (goodIn_sub (fun _ h => List.mem_append_left _ (List.mem_append_left _ (List.mem_append_left _ (List.mem_append_left _ (List.mem_append_left _ (List.mem_append_right _ h)))))) (by decide +kernel))) (goodIn_sub (fun _ h => List.mem_append_left _ (List.mem_append_left _ (List.mem_append_right _ h))) (by decide +kernel))
set_option maxRecDepth 20000 in
theorem gL_law_L_setHatch : GoodIn wsL_law (va_wsS RL 113 yL_setHatch wsL_setHatch) := goodIn_app (goodIn_of _ (by decide +kernel)) ggL_law_L_setHatch
set_option maxRecDepth 20000 in
theorem ggL_law_X15_setHatch_k0 : GoodIn wsL_law [.code yX15_setHatch cX15_setHatch 4 (some .boolean)] := goodIn_r _ [327] (by decide +kernel) (by decide +kernel)
set_option maxRecDepth 20000 in
theorem ggL_law_X15_setHatch_k1 : GoodIn wsL_law wsX15_setHatch_r1 := goodIn_r _ [111, 300, 328, 329, 330, 331, 332, 5, 333, 190, 191, 192, 117, 193, 194, 182, 183, 184, 185, 186, 187, 188, 189, 334] (by decide +kernel) (by decide +kernel)
set_option maxRecDepth 20000 in
theorem ggL_law_X15_setHatch_k2 : GoodIn wsL_law wsX15_setHatch_r2 := goodIn_r _ [335, 336, 337, 338, 339, 340, 341, 342, 343, 344, 345, 346, 347, 348, 349, 136] (by decide +kernel) (by decide +kernel)
