set_option maxRecDepth 20000 in
theorem ggL_law_L_move_k7 : GoodIn wsL_law wsX40 := goodIn_r _ [1203, 1204, 1205, 1206] (by decide +kernel) (by decide +kernel)
set_option maxRecDepth 20000 in
theorem ggL_law_L_move : GoodIn wsL_law wsL_move := goodIn_ca (goodIn_ca (goodIn_ca (goodIn_ca (goodIn_cons1 ggL_law_L_move_k0 (goodIn_app (goodIn_app (goodIn_app (goodIn_app (goodIn_app (goodIn_app ggL_law_L_move_k1 ggL_law_L_move_k2) ggL_law_L_move_k3) ggL_law_L_move_k4) ggL_law_L_move_k5) ggL_law_L_move_k6) ggL_law_L_move_k7)) (goodIn_sub (fun _ h => List.mem_append_left _ (List.mem_append_left _ (List.mem_append_left _ (List.mem_append_left _ (List.mem_append_left _ (List.mem_append_right _ h)))))) (by decide +kernel))) (goodIn_sub (fun _ h => List.mem_append_left _ (List.mem_append_right _ h)) (by decide +kernel))) (goodIn_sub (fun _ h => List.mem_append_left _ (List.mem_append_left _ (List.mem_append_right _ h))) (by decide +kernel))) (goodIn_sub (fun _ h => List.mem_append_left _ (List.mem_append_left _ (List.mem_append_left _ (List.mem_append_left _ (List.mem_append_right _ h))))) (by decide +kernel))
set_option maxRecDepth 20000 in
theorem gL_law_L_move : GoodIn wsL_law (va_wsS RL 133 yL_move wsL_move) := goodIn_app (goodIn_of _ (by decide +kernel)) ggL_law_L_move
set_option maxRecDepth 20000 in
theorem ggL_law_X15_move_k0 : GoodIn wsL_law [.code yX15_move cX15_move 7 (some .int)] := goodIn_r _ [496] (by decide +kernel) (by decide +kernel)
set_option maxRecDepth 20000 in
theorem ggL_law_X15_move_k1 : GoodIn wsL_law wsX15_move_r1 := goodIn_r _ [111, 464, 497, 498, 300, 328, 329, 499, 500, 190, 191, 192, 117, 193, 194, 182, 183, 5, 184, 304, 305, 306, 307, 179] (by decide +kernel) (by decide +kernel)
set_option maxRecDepth 20000 in
theorem ggL_law_X15_move_k2 : GoodIn wsL_law wsX15_move_r2 := goodIn_r _ [185, 186, 187, 188, 189, 334, 335, 336, 337, 338, 339, 340, 341, 342, 343, 344, 345, 346, 347, 348, 349, 136, 501, 502] (by decide +kernel) (by decide +kernel)
set_option maxRecDepth 20000 in
theorem ggL_law_X15_move_k3 : GoodIn wsL_law wsX15_move_r3 := goodIn_r _ [503, 504, 505, 506, 507, 508, 509, 510, 511, 512, 12, 13, 513, 514, 217, 515, 516, 517, 518, 519, 520, 521, 522, 523] (by decide +kernel) (by decide +kernel)
set_option maxRecDepth 20000 in
theorem ggL_law_X15_move_k4 : GoodIn wsL_law wsX15_move_r4 := goodIn_r _ [524, 525, 526, 527, 528, 529] (by decide +kernel) (by decide +kernel)
set_option maxRecDepth 20000 in
theorem ggL_law_X15_move_k5 : GoodIn wsL_law wsX150 := goodIn_r _ [1182, 1183] (by decide +kernel) (by decide +kernel)
set_option maxRecDepth 20000 in
theorem ggL_law_X15_move_k6 : GoodIn wsL_law wsX140 := goodIn_r _ [1231, 1232, 1233, 1234, 1235, 1236, 1237, 1238, 1239, 1240, 1241, 1242, 1243, 1244] (by decide +kernel) (by decide +kernel)
set_option maxRecDepth 20000 in
theorem ggL_law_X15_move_k7 : GoodIn wsL_law wsX120 := goodIn_r _ [1256, 1257, 1258] (by decide +kernel) (by decide +kernel)
set_option maxRecDepth 20000 in
theorem ggL_law_X15_move_k8 : GoodIn wsL_law wsX110 := goodIn_r _ [1249, 1250, 1251] (by decide +kernel) (by decide +kernel)
set_option maxRecDepth 20000 in
theorem ggL_law_X15_move_k9 : GoodIn wsL_law wsJx4a65c0 := goodIn_r _ [1245, 1246, 1247] (by decide +kernel) (by decide +kernel)
set_option maxRecDepth 20000 in
theorem ggL_law_X15_move_k10 : GoodIn wsL_law wsJx354110 := goodIn_r _ [1259, 1260, 1261, 1262] (by decide +kernel) (by decide +kernel)
set_option maxRecDepth 20000 in
theorem ggL_law_X15_move : GoodIn wsL_law wsX15_move := goodIn_cons1 ggL_law_X15_move_k0 (goodIn_app (goodIn_app (goodIn_app (goodIn_app (goodIn_app (goodIn_app (goodIn_app ggL_law_X15_move_k1 (goodIn_app ggL_law_X15_move_k2 (goodIn_app ggL_law_X15_move_k3 ggL_law_X15_move_k4))) ggL_law_X15_move_k5) ggL_law_X15_move_k6) ggL_law_X15_move_k7) ggL_law_X15_move_k8) ggL_law_X15_move_k9) ggL_law_X15_move_k10)
set_option maxRecDepth 20000 in
theorem gL_law_X15_move : GoodIn wsL_law (wsV RL 135 RX15 yX15_move wsX15_move) := goodIn_app (goodIn_of _ (by decide +kernel)) ggL_law_X15_move
set_option maxRecDepth 20000 in
theorem ggL_law_L_setTask : GoodIn wsL_law wsL_setTask := goodIn_ca (goodIn_ca (goodIn_ca (goodIn_ca (goodIn_ca (goodIn_r _ [532, 271, 151, 152, 407, 533, 534, 535, 2, 536, 164, 165, 412, 413, 17, 450, 482, 415, 537, 282, 283, 284, 285, 286, 484, 485, 486, 487, 157, 158, 488, 1180, 1181, 1184, 1185, 1186, 1187, 1188, 1189, 1190, 1191, 1192, 1193, 1194, 1195, 1196, 1197, 1212, 1213, 1214, 1215, 1216, 1217] (by decide +kernel) (by decide +kernel)) (goodIn_sub (fun _ h => List.mem_append_left _ (List.mem_append_left _ (List.mem_append_left _ (List.mem_append_left _ (List.mem_append_left _ (List.mem_append_right _ h)))))) (by decide +kernel))) (goodIn_sub (fun _ h => List.mem_append_left _ (List.mem_append_left _ (List.mem_append_left _ (List.mem_append_right _ h)))) (by decide +kernel))) (goodIn_sub (fun _ h => List.mem_append_left _ (List.mem_append_right _ h)) (by decide +kernel))) (goodIn_sub (fun _ h => List.mem_append_left _ (List.mem_append_left _ (List.mem_append_right _ h))) (by decide +kernel))) (goodIn_sub (fun _ h => List.mem_append_left _ (List.mem_append_left _ (List.mem_append_left _ (List.mem_append_left _ (List.mem_append_right _ h))))) (by decide +kernel))
set_option maxRecDepth 20000 in
theorem gL_law_L_setTask : GoodIn wsL_law (va_wsS RL 136 yL_setTask wsL_setTask) := goodIn_app (goodIn_of _ (by decide +kernel)) ggL_law_L_setTask
set_option maxRecDepth 20000 in
theorem ggL_law_X15_setTask_k0 : GoodIn wsL_law [.code yX15_setTask cX15_setTask 5 (some .char)] := goodIn_r _ [541] (by decide +kernel) (by decide +kernel)
set_option maxRecDepth 20000 in
theorem ggL_law_X15_setTask_k1 : GoodIn wsL_law wsX15_setTask_r1 := goodIn_r _ [111, 464, 497, 498, 423, 542, 543, 544, 545, 5, 546, 190, 191, 192, 117, 193, 194, 182, 183, 184, 185, 186, 187, 188] (by decide +kernel) (by decide +kernel)
set_option maxRecDepth 20000 in
theorem ggL_law_X15_setTask_k2 : GoodIn wsL_law wsX15_setTask_r2 := goodIn_r _ [189, 334, 335, 336, 337, 338, 339, 340, 341, 342, 343, 344, 345, 346, 347, 348, 349, 136] (by decide +kernel) (by decide +kernel)
set_option maxRecDepth 20000 in
theorem ggL_law_X15_setTask_k3 : GoodIn wsL_law wsX150 := goodIn_r _ [1182, 1183] (by decide +kernel) (by decide +kernel)
set_option maxRecDepth 20000 in
theorem ggL_law_X15_setTask_k4 : GoodIn wsL_law wsX140 := goodIn_r _ [1231, 1232, 1233, 1234, 1235, 1236, 1237, 1238, 1239, 1240, 1241, 1242, 1243, 1244] (by decide +kernel) (by decide +kernel)
set_option maxRecDepth 20000 in
theorem ggL_law_X15_setTask_k5 : GoodIn wsL_law wsX120 := goodIn_r _ [1256, 1257, 1258] (by decide +kernel) (by decide +kernel)
set_option maxRecDepth 20000 in
theorem ggL_law_X15_setTask_k6 : GoodIn wsL_law wsJx4a65c0 := goodIn_r _ [1245, 1246, 1247] (by decide +kernel) (by decide +kernel)
set_option maxRecDepth 20000 in
theorem ggL_law_X15_setTask : GoodIn wsL_law wsX15_setTask := goodIn_cons1 ggL_law_X15_setTask_k0 (goodIn_app (goodIn_app (goodIn_app (goodIn_app (goodIn_app ggL_law_X15_setTask_k1 ggL_law_X15_setTask_k2) ggL_law_X15_setTask_k3) ggL_law_X15_setTask_k4) ggL_law_X15_setTask_k5) ggL_law_X15_setTask_k6)
set_option maxRecDepth 20000 in
theorem gL_law_X15_setTask : GoodIn wsL_law (wsV RL 139 RX15 yX15_setTask wsX15_setTask) := goodIn_app (goodIn_of _ (by decide +kernel)) ggL_law_X15_setTask
set_option maxRecDepth 20000 in
theorem ggL_law_L_send_k0 : GoodIn wsL_law [.codeWith yL_send cL_send 7 (some .int) [(0, 14, 17, 13), (0, 14, 21, 21), (0, 14, 25, 15), (0, 14, 29, 37)]] := goodIn_r _ [549] (by decide +kernel) (by decide +kernel)
set_option maxRecDepth 20000 in
theorem ggL_law_L_send_k1 : GoodIn wsL_law wsL_send_r1 := goodIn_r _ [151, 271, 152, 407, 550, 551, 552, 2, 553, 164, 165, 157, 158, 412, 413, 17, 378, 414, 276, 322, 554, 415, 555, 161] (by decide +kernel) (by decide +kernel)
set_option maxRecDepth 20000 in
theorem ggL_law_L_send_k2 : GoodIn wsL_law wsL_send_r2 := goodIn_r _ [162, 163, 282, 283, 284, 285, 286, 556, 557, 558, 41, 559, 560, 561, 562, 563, 564, 87, 88, 89, 90] (by decide +kernel) (by decide +kernel)
set_option maxRecDepth 20000 in
theorem ggL_law_L_send_k3 : GoodIn wsL_law wsX80 := goodIn_r _ [1180, 1181] (by decide +kernel) (by decide +kernel)
set_option maxRecDepth 20000 in
theorem ggL_law_L_send_k4 : GoodIn wsL_law wsX70 := goodIn_r _ [1184, 1185, 1186, 1187, 1188, 1189, 1190, 1191, 1192, 1193, 1194, 1195, 1196, 1197] (by decide +kernel) (by decide +kernel)
set_option maxRecDepth 20000 in
theorem ggL_law_L_send_k5 : GoodIn wsL_law wsX20 := goodIn_r _ [1207, 1208, 1209, 1210, 1211] (by decide +kernel) (by decide +kernel)
set_option maxRecDepth 20000 in
theorem ggL_law_L_send_k6 : GoodIn wsL_law wsX40 := goodIn_r _ [1203, 1204, 1205, 1206] (by decide +kernel) (by decide +kernel)
set_option maxRecDepth 20000 in
theorem ggL_law_L_send_k7 : GoodIn wsL_law wsX00 := goodIn_r _ [1218, 1219, 1220, 1221, 1222] (by decide +kernel) (by decide +kernel)
set_option maxRecDepth 20000 in
theorem ggL_law_L_send : GoodIn wsL_law wsL_send := goodIn_ca (goodIn_ca (goodIn_ca (goodIn_ca (goodIn_ca (goodIn_cons1 ggL_law_L_send_k0 (goodIn_app (goodIn_app (goodIn_app (goodIn_app (goodIn_app (goodIn_app ggL_law_L_send_k1 ggL_law_L_send_k2) ggL_law_L_send_k3) ggL_law_L_send_k4) ggL_law_L_send_k5) ggL_law_L_send_k6) ggL_law_L_send_k7)) (goodIn_sub (fun _ h => List.mem_append_left _ (List.mem_append_left _ (List.mem_append_left _ (List.mem_append_left _ (List.mem_append_left _ (List.mem_append_right _ h)))))) (by decide +kernel))) (goodIn_sub (fun _ h => List.mem_append_left _ (List.mem_append_left _ (List.mem_append_left _ (List.mem_append_right _ h)))) (by decide +kernel))) (goodIn_sub (fun _ h => List.mem_append_left _ (List.mem_append_left _ (List.mem_append_left _ (List.mem_append_left _ (List.mem_append_right _ h))))) (by decide +kernel))) (goodIn_sub (fun _ h => List.mem_append_left _ (List.mem_append_right _ h)) (by decide +kernel))) (goodIn_sub (fun _ h => List.mem_append_left _ (List.mem_append_left _ (List.mem_append_right _ h))) (by decide +kernel))
set_option maxRecDepth 20000 in
theorem gL_law_L_send : GoodIn wsL_law (va_wsS RL 140 yL_send wsL_send) := goodIn_app (goodIn_of _ (by decide +kernel)) ggL_law_L_send
set_option maxRecDepth 20000 in
theorem ggL_law_X15_send_k0 : GoodIn wsL_law [.code yX15_send cX15_send 6 (some .int)] := goodIn_r _ [568] (by decide +kernel) (by decide +kernel)
set_option maxRecDepth 20000 in
theorem ggL_law_X15_send_k1 : GoodIn wsL_law wsX15_send_r1 := goodIn_r _ [111, 569, 423, 570, 571, 572, 573, 182, 183, 5, 184, 185, 186, 187, 188, 189, 426, 427, 428, 429, 392, 190, 191, 192] (by decide +kernel) (by decide +kernel)
set_option maxRecDepth 20000 in
theorem ggL_law_X15_send_k2 : GoodIn wsL_law wsX15_send_r2 := goodIn_r _ [117, 193, 194, 330, 331, 332, 333, 300, 574, 575, 576, 577, 12, 13, 578, 579, 580, 581, 212, 213, 214, 215, 216, 217] (by decide +kernel) (by decide +kernel)
