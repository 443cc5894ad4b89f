set_option maxRecDepth 20000 in
theorem ggL_law_X15_setHatch_k3 : GoodIn wsL_law wsX150 := goodIn_r _ [1182, 1183] (by decide +kernel) (by decide +kernel)
set_option maxRecDepth 20000 in
theorem ggL_law_X15_setHatch_k4 : GoodIn wsL_law wsX140 := goodIn_r _ [1231, 1232, 1233, 1234, 1235, 1236, 1237, 1238, 1239, 1240, 1241, 1242, 1243, 1244] (by decide +kernel) (by decide +kernel)
set_option maxRecDepth 20000 in
theorem ggL_law_X15_setHatch_k5 : GoodIn wsL_law wsX110 := goodIn_r _ [1249, 1250, 1251] (by decide +kernel) (by decide +kernel)
set_option maxRecDepth 20000 in
theorem ggL_law_X15_setHatch_k6 : GoodIn wsL_law wsJx4a65c0 := goodIn_r _ [1245, 1246, 1247] (by decide +kernel) (by decide +kernel)
set_option maxRecDepth 20000 in
theorem ggL_law_X15_setHatch : GoodIn wsL_law wsX15_setHatch := goodIn_cons1 ggL_law_X15_setHatch_k0 (goodIn_app (goodIn_app (goodIn_app (goodIn_app (goodIn_app ggL_law_X15_setHatch_k1 ggL_law_X15_setHatch_k2) ggL_law_X15_setHatch_k3) ggL_law_X15_setHatch_k4) ggL_law_X15_setHatch_k5) ggL_law_X15_setHatch_k6)
set_option maxRecDepth 20000 in
theorem gL_law_X15_setHatch : GoodIn wsL_law (wsV RL 116 RX15 yX15_setHatch wsX15_setHatch) := goodIn_app (goodIn_of _ (by decide +kernel)) ggL_law_X15_setHatch
set_option maxRecDepth 20000 in
theorem ggL_law_L_setLeak : GoodIn wsL_law wsL_setLeak := goodIn_ca (goodIn_ca (goodIn_ca (goodIn_r _ [352, 271, 151, 353, 354, 355, 2, 356, 17, 159, 357, 277, 278, 279, 280, 281, 282, 283, 284, 285, 286, 161, 162, 163, 164, 165, 1180, 1181, 1184, 1185, 1186, 1187, 1188, 1189, 1190, 1191, 1192, 1193, 1194, 1195, 1196, 1197, 1198, 1199, 1200, 1201, 1202] (by decide +kernel) (by decide +kernel)) (goodIn_sub (fun _ h => List.mem_append_left _ (List.mem_append_left _ (List.mem_append_left _ (List.mem_append_left _ (List.mem_append_left _ (List.mem_append_right _ h)))))) (by decide +kernel))) (goodIn_sub (fun _ h => List.mem_append_left _ (List.mem_append_left _ (List.mem_append_right _ h))) (by decide +kernel))) (goodIn_sub (fun _ h => List.mem_append_left _ (List.mem_append_left _ (List.mem_append_left _ (List.mem_append_right _ h)))) (by decide +kernel))
set_option maxRecDepth 20000 in
theorem gL_law_L_setLeak : GoodIn wsL_law (va_wsS RL 117 yL_setLeak wsL_setLeak) := goodIn_app (goodIn_of _ (by decide +kernel)) ggL_law_L_setLeak
set_option maxRecDepth 20000 in
theorem ggL_law_X15_setLeak_k0 : GoodIn wsL_law [.code yX15_setLeak cX15_setLeak 3 (some .int)] := goodIn_r _ [361] (by decide +kernel) (by decide +kernel)
set_option maxRecDepth 20000 in
theorem ggL_law_X15_setLeak_k1 : GoodIn wsL_law wsX15_setLeak_r1 := goodIn_r _ [111, 181, 362, 304, 305, 306, 5, 307, 179, 190, 191, 192, 117, 193, 194, 182, 183, 184, 185, 186, 187, 188, 189, 195] (by decide +kernel) (by decide +kernel)
set_option maxRecDepth 20000 in
theorem ggL_law_X15_setLeak_k2 : GoodIn wsL_law wsX15_setLeak_r2 := goodIn_r _ [196, 197, 198, 199, 200, 201, 202, 203, 204, 205, 206, 207, 208, 209, 210, 211, 12, 13, 363, 364, 365, 366, 136, 338] (by decide +kernel) (by decide +kernel)
set_option maxRecDepth 20000 in
theorem ggL_law_X15_setLeak_k3 : GoodIn wsL_law wsX15_setLeak_r3 := goodIn_r _ [339, 340, 341, 342, 343, 344, 345, 346, 347, 348, 349, 367, 368, 369, 370] (by decide +kernel) (by decide +kernel)
set_option maxRecDepth 20000 in
theorem ggL_law_X15_setLeak_k4 : GoodIn wsL_law wsX150 := goodIn_r _ [1182, 1183] (by decide +kernel) (by decide +kernel)
set_option maxRecDepth 20000 in
theorem ggL_law_X15_setLeak_k5 : GoodIn wsL_law wsX140 := goodIn_r _ [1231, 1232, 1233, 1234, 1235, 1236, 1237, 1238, 1239, 1240, 1241, 1242, 1243, 1244] (by decide +kernel) (by decide +kernel)
set_option maxRecDepth 20000 in
theorem ggL_law_X15_setLeak_k6 : GoodIn wsL_law wsJx4a65c0 := goodIn_r _ [1245, 1246, 1247] (by decide +kernel) (by decide +kernel)
set_option maxRecDepth 20000 in
theorem ggL_law_X15_setLeak_k7 : GoodIn wsL_law wsJ60 := goodIn_r _ [1248] (by decide +kernel) (by decide +kernel)
set_option maxRecDepth 20000 in
theorem ggL_law_X15_setLeak : GoodIn wsL_law wsX15_setLeak := goodIn_cons1 ggL_law_X15_setLeak_k0 (goodIn_app (goodIn_app (goodIn_app (goodIn_app (goodIn_app ggL_law_X15_setLeak_k1 (goodIn_app ggL_law_X15_setLeak_k2 ggL_law_X15_setLeak_k3)) ggL_law_X15_setLeak_k4) ggL_law_X15_setLeak_k5) ggL_law_X15_setLeak_k6) ggL_law_X15_setLeak_k7)
set_option maxRecDepth 20000 in
theorem gL_law_X15_setLeak : GoodIn wsL_law (wsV RL 119 RX15 yX15_setLeak wsX15_setLeak) := goodIn_app (goodIn_of _ (by decide +kernel)) ggL_law_X15_setLeak
set_option maxRecDepth 20000 in
theorem ggL_law_L_addDevice_k0 : GoodIn wsL_law [.codeWith yL_addDevice cL_addDevice 5 (some .int) [(0, 10, 13, 13), (0, 10, 17, 21), (0, 10, 21, 15)]] := goodIn_r _ [373] (by decide +kernel) (by decide +kernel)
set_option maxRecDepth 20000 in
theorem ggL_law_L_addDevice_k1 : GoodIn wsL_law wsL_addDevice_r1 := goodIn_r _ [151, 271, 152, 374, 375, 376, 2, 377, 164, 165, 157, 158, 17, 378, 277, 278, 279, 280, 159, 281, 282, 283, 284, 285] (by decide +kernel) (by decide +kernel)
set_option maxRecDepth 20000 in
theorem ggL_law_L_addDevice_k2 : GoodIn wsL_law wsL_addDevice_r2 := goodIn_r _ [286, 379, 380, 381, 33, 382, 383, 384, 385, 386, 387, 73, 74] (by decide +kernel) (by decide +kernel)
set_option maxRecDepth 20000 in
theorem ggL_law_L_addDevice_k3 : GoodIn wsL_law wsX80 := goodIn_r _ [1180, 1181] (by decide +kernel) (by decide +kernel)
set_option maxRecDepth 20000 in
theorem ggL_law_L_addDevice_k4 : GoodIn wsL_law wsX70 := goodIn_r _ [1184, 1185, 1186, 1187, 1188, 1189, 1190, 1191, 1192, 1193, 1194, 1195, 1196, 1197] (by decide +kernel) (by decide +kernel)
set_option maxRecDepth 20000 in
theorem ggL_law_L_addDevice_k5 : GoodIn wsL_law wsX50 := goodIn_r _ [1198, 1199, 1200, 1201, 1202] (by decide +kernel) (by decide +kernel)
set_option maxRecDepth 20000 in
theorem ggL_law_L_addDevice_k6 : GoodIn wsL_law wsX20 := goodIn_r _ [1207, 1208, 1209, 1210, 1211] (by decide +kernel) (by decide +kernel)
set_option maxRecDepth 20000 in
theorem ggL_law_L_addDevice : GoodIn wsL_law wsL_addDevice := goodIn_ca (goodIn_ca (goodIn_ca (goodIn_ca (goodIn_cons1 ggL_law_L_addDevice_k0 (goodIn_app (goodIn_app (goodIn_app (goodIn_app (goodIn_app ggL_law_L_addDevice_k1 ggL_law_L_addDevice_k2) ggL_law_L_addDevice_k3) ggL_law_L_addDevice_k4) ggL_law_L_addDevice_k5) ggL_law_L_addDevice_k6)) (goodIn_sub (fun _ h => List.mem_append_left _ (List.mem_append_left _ (List.mem_append_left _ (List.mem_append_left _ (List.mem_append_left _ (List.mem_append_right _ h)))))) (by decide +kernel))) (goodIn_sub (fun _ h => List.mem_append_left _ (List.mem_append_left _ (List.mem_append_left _ (List.mem_append_right _ h)))) (by decide +kernel))) (goodIn_sub (fun _ h => List.mem_append_left _ (List.mem_append_left _ (List.mem_append_left _ (List.mem_append_left _ (List.mem_append_right _ h))))) (by decide +kernel))) (goodIn_sub (fun _ h => List.mem_append_left _ (List.mem_append_left _ (List.mem_append_right _ h))) (by decide +kernel))
set_option maxRecDepth 20000 in
theorem gL_law_L_addDevice : GoodIn wsL_law (va_wsS RL 120 yL_addDevice wsL_addDevice) := goodIn_app (goodIn_of _ (by decide +kernel)) ggL_law_L_addDevice
set_option maxRecDepth 20000 in
theorem ggL_law_X15_addDevice_k0 : GoodIn wsL_law [.code yX15_addDevice cX15_addDevice 3 (some .int)] := goodIn_r _ [391] (by decide +kernel) (by decide +kernel)
set_option maxRecDepth 20000 in
theorem ggL_law_X15_addDevice_k1 : GoodIn wsL_law wsX15_addDevice_r1 := goodIn_r _ [111, 392, 393, 394, 395, 185, 186, 187, 5, 188, 189, 304, 305, 306, 307, 179, 190, 191, 192, 117, 193, 194, 182, 183] (by decide +kernel) (by decide +kernel)
set_option maxRecDepth 20000 in
theorem ggL_law_X15_addDevice_k2 : GoodIn wsL_law wsX15_addDevice_r2 := goodIn_r _ [184, 396, 397, 398, 399, 12, 13, 400, 401, 402, 403, 212, 213, 214, 215, 216, 217, 136, 218, 219, 220, 221, 222, 223] (by decide +kernel) (by decide +kernel)
set_option maxRecDepth 20000 in
theorem ggL_law_X15_addDevice_k3 : GoodIn wsL_law wsX15_addDevice_r3 := goodIn_r _ [224, 225, 226, 227, 228, 229, 135, 230, 231, 232, 233, 234, 235, 236, 237, 238, 239, 240, 241, 242, 243, 244, 245, 246] (by decide +kernel) (by decide +kernel)
set_option maxRecDepth 20000 in
theorem ggL_law_X15_addDevice_k4 : GoodIn wsL_law wsX15_addDevice_r4 := goodIn_r _ [247, 248, 249, 250, 251, 252, 253, 254, 255, 256, 257, 258, 259, 260, 261, 262, 263] (by decide +kernel) (by decide +kernel)
set_option maxRecDepth 20000 in
theorem ggL_law_X15_addDevice_k5 : GoodIn wsL_law wsX150 := goodIn_r _ [1182, 1183] (by decide +kernel) (by decide +kernel)
set_option maxRecDepth 20000 in
theorem ggL_law_X15_addDevice_k6 : GoodIn wsL_law wsX140 := goodIn_r _ [1231, 1232, 1233, 1234, 1235, 1236, 1237, 1238, 1239, 1240, 1241, 1242, 1243, 1244] (by decide +kernel) (by decide +kernel)
set_option maxRecDepth 20000 in
theorem ggL_law_X15_addDevice_k7 : GoodIn wsL_law wsX100 := goodIn_r _ [1252, 1253, 1254, 1255] (by decide +kernel) (by decide +kernel)
set_option maxRecDepth 20000 in
theorem ggL_law_X15_addDevice_k8 : GoodIn wsL_law wsJx4a65c0 := goodIn_r _ [1245, 1246, 1247] (by decide +kernel) (by decide +kernel)
set_option maxRecDepth 20000 in
theorem ggL_law_X15_addDevice : GoodIn wsL_law wsX15_addDevice := goodIn_cons1 ggL_law_X15_addDevice_k0 (goodIn_app (goodIn_app (goodIn_app (goodIn_app (goodIn_app ggL_law_X15_addDevice_k1 (goodIn_app ggL_law_X15_addDevice_k2 (goodIn_app ggL_law_X15_addDevice_k3 ggL_law_X15_addDevice_k4))) ggL_law_X15_addDevice_k5) ggL_law_X15_addDevice_k6) ggL_law_X15_addDevice_k7) ggL_law_X15_addDevice_k8)
set_option maxRecDepth 20000 in
theorem gL_law_X15_addDevice : GoodIn wsL_law (wsV RL 123 RX15 yX15_addDevice wsX15_addDevice) := goodIn_app (goodIn_of _ (by decide +kernel)) ggL_law_X15_addDevice
set_option maxRecDepth 20000 in
theorem ggL_law_L_setDevice : GoodIn wsL_law wsL_setDevice := goodIn_ca (goodIn_ca (goodIn_ca (goodIn_r _ [406, 271, 407, 408, 409, 410, 2, 411, 412, 413, 17, 378, 414, 415, 416, 417, 282, 283, 284, 285, 286, 1180, 1181, 1184, 1185, 1186, 1187, 1188, 1189, 1190, 1191, 1192, 1193, 1194, 1195, 1196, 1197, 1207, 1208, 1209, 1210, 1211] (by decide +kernel) (by decide +kernel)) (goodIn_sub (fun _ h => List.mem_append_left _ (List.mem_append_left _ (List.mem_append_left _ (List.mem_append_left _ (List.mem_append_left _ (List.mem_append_right _ h)))))) (by decide +kernel))) (goodIn_sub (fun _ h => List.mem_append_left _ (List.mem_append_right _ h)) (by decide +kernel))) (goodIn_sub (fun _ h => List.mem_append_left _ (List.mem_append_left _ (List.mem_append_right _ h))) (by decide +kernel))
set_option maxRecDepth 20000 in
theorem gL_law_L_setDevice : GoodIn wsL_law (va_wsS RL 124 yL_setDevice wsL_setDevice) := goodIn_app (goodIn_of _ (by decide +kernel)) ggL_law_L_setDevice
