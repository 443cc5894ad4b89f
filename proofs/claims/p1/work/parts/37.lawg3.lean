set_option maxRecDepth 20000 in
theorem ggL_law_X15_setDevice_k0 : GoodIn wsL_law [.code yX15_setDevice cX15_setDevice 5 (some .boolean)] := goodIn_r _ [421] (by decide +kernel) (by decide +kernel)
set_option maxRecDepth 20000 in
theorem ggL_law_X15_setDevice_k1 : GoodIn wsL_law wsX15_setDevice_r1 := goodIn_r _ [111, 392, 422, 423, 424, 425, 426, 427, 428, 5, 429, 190, 191, 192, 117, 193, 194, 182, 183, 184, 185, 186, 187, 188] (by decide +kernel) (by decide +kernel)
set_option maxRecDepth 20000 in
theorem ggL_law_X15_setDevice_k2 : GoodIn wsL_law wsX15_setDevice_r2 := goodIn_r _ [189, 334, 335, 336, 337, 338, 339, 340, 341, 342, 343, 344, 345, 346, 347, 348, 349, 136] (by decide +kernel) (by decide +kernel)
set_option maxRecDepth 20000 in
theorem ggL_law_X15_setDevice_k3 : GoodIn wsL_law wsX150 := goodIn_r _ [1182, 1183] (by decide +kernel) (by decide +kernel)
set_option maxRecDepth 20000 in
theorem ggL_law_X15_setDevice_k4 : GoodIn wsL_law wsX140 := goodIn_r _ [1231, 1232, 1233, 1234, 1235, 1236, 1237, 1238, 1239, 1240, 1241, 1242, 1243, 1244] (by decide +kernel) (by decide +kernel)
set_option maxRecDepth 20000 in
theorem ggL_law_X15_setDevice_k5 : GoodIn wsL_law wsX100 := goodIn_r _ [1252, 1253, 1254, 1255] (by decide +kernel) (by decide +kernel)
set_option maxRecDepth 20000 in
theorem ggL_law_X15_setDevice_k6 : GoodIn wsL_law wsJx4a65c0 := goodIn_r _ [1245, 1246, 1247] (by decide +kernel) (by decide +kernel)
set_option maxRecDepth 20000 in
theorem ggL_law_X15_setDevice : GoodIn wsL_law wsX15_setDevice := goodIn_cons1 ggL_law_X15_setDevice_k0 (goodIn_app (goodIn_app (goodIn_app (goodIn_app (goodIn_app ggL_law_X15_setDevice_k1 ggL_law_X15_setDevice_k2) ggL_law_X15_setDevice_k3) ggL_law_X15_setDevice_k4) ggL_law_X15_setDevice_k5) ggL_law_X15_setDevice_k6)
set_option maxRecDepth 20000 in
theorem gL_law_X15_setDevice : GoodIn wsL_law (wsV RL 126 RX15 yX15_setDevice wsX15_setDevice) := goodIn_app (goodIn_of _ (by decide +kernel)) ggL_law_X15_setDevice
set_option maxRecDepth 20000 in
theorem ggL_law_L_setPanels : GoodIn wsL_law wsL_setPanels := goodIn_ca (goodIn_ca (goodIn_r _ [432, 151, 433, 434, 435, 2, 436, 17, 437, 161, 162, 163, 164, 165, 1180, 1181, 1184, 1185, 1186, 1187, 1188, 1189, 1190, 1191, 1192, 1193, 1194, 1195, 1196, 1197] (by decide +kernel) (by decide +kernel)) (goodIn_sub (fun _ h => List.mem_append_left _ (List.mem_append_left _ (List.mem_append_left _ (List.mem_append_left _ (List.mem_append_left _ (List.mem_append_right _ h)))))) (by decide +kernel))) (goodIn_sub (fun _ h => List.mem_append_left _ (List.mem_append_left _ (List.mem_append_left _ (List.mem_append_right _ h)))) (by decide +kernel))
set_option maxRecDepth 20000 in
theorem gL_law_L_setPanels : GoodIn wsL_law (va_wsS RL 127 yL_setPanels wsL_setPanels) := goodIn_app (goodIn_of _ (by decide +kernel)) ggL_law_L_setPanels
set_option maxRecDepth 20000 in
theorem ggL_law_X15_setPanels : GoodIn wsL_law wsX15_setPanels := goodIn_r _ [441, 111, 442, 182, 183, 5, 184, 185, 186, 187, 188, 189, 1182, 1183, 1231, 1232, 1233, 1234, 1235, 1236, 1237, 1238, 1239, 1240, 1241, 1242, 1243, 1244] (by decide +kernel) (by decide +kernel)
set_option maxRecDepth 20000 in
theorem gL_law_X15_setPanels : GoodIn wsL_law (wsV RL 129 RX15 yX15_setPanels wsX15_setPanels) := goodIn_app (goodIn_of _ (by decide +kernel)) ggL_law_X15_setPanels
set_option maxRecDepth 20000 in
theorem ggL_law_L_board_k0 : GoodIn wsL_law [.codeWith yL_board cL_board 4 (some .int) [(0, 9, 12, 21), (0, 9, 15, 15)]] := goodIn_r _ [445] (by decide +kernel) (by decide +kernel)
set_option maxRecDepth 20000 in
theorem ggL_law_L_board_k1 : GoodIn wsL_law wsL_board_r1 := goodIn_r _ [271, 152, 446, 447, 448, 2, 449, 157, 158, 17, 450, 277, 278, 279, 280, 159, 281, 282, 283, 284, 285, 286, 451, 452] (by decide +kernel) (by decide +kernel)
set_option maxRecDepth 20000 in
theorem ggL_law_L_board_k2 : GoodIn wsL_law wsL_board_r2 := goodIn_r _ [453, 37, 454, 455, 456, 457, 458, 459, 80, 81] (by decide +kernel) (by decide +kernel)
set_option maxRecDepth 20000 in
theorem ggL_law_L_board_k3 : GoodIn wsL_law wsX80 := goodIn_r _ [1180, 1181] (by decide +kernel) (by decide +kernel)
set_option maxRecDepth 20000 in
theorem ggL_law_L_board_k4 : GoodIn wsL_law wsX70 := goodIn_r _ [1184, 1185, 1186, 1187, 1188, 1189, 1190, 1191, 1192, 1193, 1194, 1195, 1196, 1197] (by decide +kernel) (by decide +kernel)
set_option maxRecDepth 20000 in
theorem ggL_law_L_board_k5 : GoodIn wsL_law wsX50 := goodIn_r _ [1198, 1199, 1200, 1201, 1202] (by decide +kernel) (by decide +kernel)
set_option maxRecDepth 20000 in
theorem ggL_law_L_board_k6 : GoodIn wsL_law wsX10 := goodIn_r _ [1212, 1213, 1214, 1215, 1216, 1217] (by decide +kernel) (by decide +kernel)
set_option maxRecDepth 20000 in
theorem ggL_law_L_board : GoodIn wsL_law wsL_board := goodIn_ca (goodIn_ca (goodIn_ca (goodIn_cons1 ggL_law_L_board_k0 (goodIn_app (goodIn_app (goodIn_app (goodIn_app (goodIn_app ggL_law_L_board_k1 ggL_law_L_board_k2) ggL_law_L_board_k3) ggL_law_L_board_k4) ggL_law_L_board_k5) ggL_law_L_board_k6)) (goodIn_sub (fun _ h => List.mem_append_left _ (List.mem_append_left _ (List.mem_append_left _ (List.mem_append_left _ (List.mem_append_left _ (List.mem_append_right _ h)))))) (by decide +kernel))) (goodIn_sub (fun _ h => List.mem_append_left _ (List.mem_append_left _ (List.mem_append_left _ (List.mem_append_left _ (List.mem_append_right _ h))))) (by decide +kernel))) (goodIn_sub (fun _ h => List.mem_append_left _ (List.mem_append_left _ (List.mem_append_right _ h))) (by decide +kernel))
set_option maxRecDepth 20000 in
theorem gL_law_L_board : GoodIn wsL_law (va_wsS RL 130 yL_board wsL_board) := goodIn_app (goodIn_of _ (by decide +kernel)) ggL_law_L_board
set_option maxRecDepth 20000 in
theorem ggL_law_X15_board_k0 : GoodIn wsL_law [.code yX15_board cX15_board 2 (some .int)] := goodIn_r _ [463] (by decide +kernel) (by decide +kernel)
set_option maxRecDepth 20000 in
theorem ggL_law_X15_board_k1 : GoodIn wsL_law wsX15_board_r1 := goodIn_r _ [111, 464, 465, 466, 467, 304, 305, 306, 5, 307, 179, 190, 191, 192, 117, 193, 194, 182, 183, 184, 185, 186, 187, 188] (by decide +kernel) (by decide +kernel)
set_option maxRecDepth 20000 in
theorem ggL_law_X15_board_k2 : GoodIn wsL_law wsX15_board_r2 := goodIn_r _ [189, 468, 469, 470, 471, 12, 13, 472, 473, 474, 212, 213, 214, 215, 216, 217, 136, 218, 219, 220, 221, 222, 223, 224] (by decide +kernel) (by decide +kernel)
set_option maxRecDepth 20000 in
theorem ggL_law_X15_board_k3 : GoodIn wsL_law wsX15_board_r3 := goodIn_r _ [225, 226, 227, 228, 229, 135, 230, 231, 232, 233, 234, 235, 236, 237, 238, 239, 240, 241, 242, 243, 244, 245, 246, 247] (by decide +kernel) (by decide +kernel)
set_option maxRecDepth 20000 in
theorem ggL_law_X15_board_k4 : GoodIn wsL_law wsX15_board_r4 := goodIn_r _ [248, 249, 250, 251, 252, 253, 254, 255, 256, 257, 258, 259, 260, 261, 262, 263] (by decide +kernel) (by decide +kernel)
set_option maxRecDepth 20000 in
theorem ggL_law_X15_board_k5 : GoodIn wsL_law wsX150 := goodIn_r _ [1182, 1183] (by decide +kernel) (by decide +kernel)
set_option maxRecDepth 20000 in
theorem ggL_law_X15_board_k6 : GoodIn wsL_law wsX140 := goodIn_r _ [1231, 1232, 1233, 1234, 1235, 1236, 1237, 1238, 1239, 1240, 1241, 1242, 1243, 1244] (by decide +kernel) (by decide +kernel)
set_option maxRecDepth 20000 in
theorem ggL_law_X15_board_k7 : GoodIn wsL_law wsX120 := goodIn_r _ [1256, 1257, 1258] (by decide +kernel) (by decide +kernel)
set_option maxRecDepth 20000 in
theorem ggL_law_X15_board_k8 : GoodIn wsL_law wsJx4a65c0 := goodIn_r _ [1245, 1246, 1247] (by decide +kernel) (by decide +kernel)
set_option maxRecDepth 20000 in
theorem ggL_law_X15_board : GoodIn wsL_law wsX15_board := goodIn_cons1 ggL_law_X15_board_k0 (goodIn_app (goodIn_app (goodIn_app (goodIn_app (goodIn_app ggL_law_X15_board_k1 (goodIn_app ggL_law_X15_board_k2 (goodIn_app ggL_law_X15_board_k3 ggL_law_X15_board_k4))) ggL_law_X15_board_k5) ggL_law_X15_board_k6) ggL_law_X15_board_k7) ggL_law_X15_board_k8)
set_option maxRecDepth 20000 in
theorem gL_law_X15_board : GoodIn wsL_law (wsV RL 132 RX15 yX15_board wsX15_board) := goodIn_app (goodIn_of _ (by decide +kernel)) ggL_law_X15_board
set_option maxRecDepth 20000 in
theorem ggL_law_L_move_k0 : GoodIn wsL_law [.codeWith yL_move cL_move 5 (some .int) [(0, 10, 13, 21), (0, 10, 17, 15), (0, 10, 21, 37)]] := goodIn_r _ [477] (by decide +kernel) (by decide +kernel)
set_option maxRecDepth 20000 in
theorem ggL_law_L_move_k1 : GoodIn wsL_law wsL_move_r1 := goodIn_r _ [271, 152, 407, 478, 479, 480, 2, 481, 412, 413, 17, 450, 482, 483, 276, 282, 283, 284, 285, 286, 277, 278, 279, 280] (by decide +kernel) (by decide +kernel)
set_option maxRecDepth 20000 in
theorem ggL_law_L_move_k2 : GoodIn wsL_law wsL_move_r2 := goodIn_r _ [159, 281, 484, 485, 486, 487, 157, 158, 488, 489, 490, 491, 29, 492, 291, 65, 66, 68] (by decide +kernel) (by decide +kernel)
set_option maxRecDepth 20000 in
theorem ggL_law_L_move_k3 : GoodIn wsL_law wsX80 := goodIn_r _ [1180, 1181] (by decide +kernel) (by decide +kernel)
set_option maxRecDepth 20000 in
theorem ggL_law_L_move_k4 : GoodIn wsL_law wsX70 := goodIn_r _ [1184, 1185, 1186, 1187, 1188, 1189, 1190, 1191, 1192, 1193, 1194, 1195, 1196, 1197] (by decide +kernel) (by decide +kernel)
set_option maxRecDepth 20000 in
theorem ggL_law_L_move_k5 : GoodIn wsL_law wsX10 := goodIn_r _ [1212, 1213, 1214, 1215, 1216, 1217] (by decide +kernel) (by decide +kernel)
set_option maxRecDepth 20000 in
theorem ggL_law_L_move_k6 : GoodIn wsL_law wsX50 := goodIn_r _ [1198, 1199, 1200, 1201, 1202] (by decide +kernel) (by decide +kernel)
