set_option maxRecDepth 20000 in
theorem ggL_law_X15_send_k3 : GoodIn wsL_law wsX15_send_r3 := goodIn_r _ [136, 218, 219, 220, 221, 222, 223, 224, 225, 226, 227, 228, 229, 135, 230, 231, 232, 233, 234, 235, 236, 237, 238, 239] (by decide +kernel) (by decide +kernel)
set_option maxRecDepth 20000 in
theorem ggL_law_X15_send_k4 : GoodIn wsL_law wsX15_send_r4 := goodIn_r _ [240, 241, 242, 243, 244, 245, 246, 247, 248, 249, 250, 251, 252, 253, 254, 255, 256, 257, 258, 259, 260, 261, 262, 263] (by decide +kernel) (by decide +kernel)
set_option maxRecDepth 20000 in
theorem ggL_law_X15_send_k5 : GoodIn wsL_law wsX150 := goodIn_r _ [1182, 1183] (by decide +kernel) (by decide +kernel)
set_option maxRecDepth 20000 in
theorem ggL_law_X15_send_k6 : GoodIn wsL_law wsX140 := goodIn_r _ [1231, 1232, 1233, 1234, 1235, 1236, 1237, 1238, 1239, 1240, 1241, 1242, 1243, 1244] (by decide +kernel) (by decide +kernel)
set_option maxRecDepth 20000 in
theorem ggL_law_X15_send_k7 : GoodIn wsL_law wsX90 := goodIn_r _ [1263, 1264, 1265, 1266] (by decide +kernel) (by decide +kernel)
set_option maxRecDepth 20000 in
theorem ggL_law_X15_send_k8 : GoodIn wsL_law wsJx4a65c0 := goodIn_r _ [1245, 1246, 1247] (by decide +kernel) (by decide +kernel)
set_option maxRecDepth 20000 in
theorem ggL_law_X15_send : GoodIn wsL_law wsX15_send := goodIn_cons1 ggL_law_X15_send_k0 (goodIn_app (goodIn_app (goodIn_app (goodIn_app (goodIn_app ggL_law_X15_send_k1 (goodIn_app ggL_law_X15_send_k2 (goodIn_app ggL_law_X15_send_k3 ggL_law_X15_send_k4))) ggL_law_X15_send_k5) ggL_law_X15_send_k6) ggL_law_X15_send_k7) ggL_law_X15_send_k8)
set_option maxRecDepth 20000 in
theorem gL_law_X15_send : GoodIn wsL_law (wsV RL 143 RX15 yX15_send wsX15_send) := goodIn_app (goodIn_of _ (by decide +kernel)) ggL_law_X15_send
set_option maxRecDepth 20000 in
theorem ggL_law_L_approach : GoodIn wsL_law wsL_approach := goodIn_ca (goodIn_ca (goodIn_ca (goodIn_r _ [584, 151, 152, 585, 586, 587, 2, 588, 157, 158, 17, 589, 161, 162, 163, 164, 165, 590, 591, 592, 45, 593, 594, 595, 596, 597, 598, 94, 97, 96, 1180, 1181, 1184, 1185, 1186, 1187, 1188, 1189, 1190, 1191, 1192, 1193, 1194, 1195, 1196, 1197, 1223, 1224, 1225, 1226, 1227, 1228] (by decide +kernel) (by decide +kernel)) (goodIn_sub (fun _ h => List.mem_append_left _ (List.mem_append_left _ (List.mem_append_left _ (List.mem_append_left _ (List.mem_append_left _ (List.mem_append_right _ h)))))) (by decide +kernel))) (goodIn_sub (fun _ h => List.mem_append_left _ (List.mem_append_left _ (List.mem_append_left _ (List.mem_append_left _ (List.mem_append_right _ h))))) (by decide +kernel))) (goodIn_sub (fun _ h => List.mem_append_left _ (List.mem_append_left _ (List.mem_append_left _ (List.mem_append_right _ h)))) (by decide +kernel))
set_option maxRecDepth 20000 in
theorem gL_law_L_approach : GoodIn wsL_law (va_wsS RL 144 yL_approach wsL_approach) := goodIn_app (goodIn_of _ (by decide +kernel)) ggL_law_L_approach
set_option maxRecDepth 20000 in
theorem ggL_law_X15_approach_k0 : GoodIn wsL_law [.code yX15_approach cX15_approach 3 (some .int)] := goodIn_r _ [602] (by decide +kernel) (by decide +kernel)
set_option maxRecDepth 20000 in
theorem ggL_law_X15_approach_k1 : GoodIn wsL_law wsX15_approach_r1 := goodIn_r _ [111, 603, 604, 605, 606, 182, 183, 5, 184, 185, 186, 187, 188, 189, 190, 191, 192, 117, 193, 194, 607, 608, 609, 610] (by decide +kernel) (by decide +kernel)
set_option maxRecDepth 20000 in
theorem ggL_law_X15_approach_k2 : GoodIn wsL_law wsX15_approach_r2 := goodIn_r _ [12, 13, 611, 612, 613, 614, 212, 213, 214, 215, 216, 217, 136, 218, 219, 220, 221, 222, 223, 224, 225, 226, 227, 228] (by decide +kernel) (by decide +kernel)
set_option maxRecDepth 20000 in
theorem ggL_law_X15_approach_k3 : GoodIn wsL_law wsX15_approach_r3 := goodIn_r _ [229, 135, 230, 231, 232, 233, 234, 235, 236, 237, 238, 239, 240, 241, 242, 243, 244, 245, 246, 247, 248, 249, 250, 251] (by decide +kernel) (by decide +kernel)
set_option maxRecDepth 20000 in
theorem ggL_law_X15_approach_k4 : GoodIn wsL_law wsX15_approach_r4 := goodIn_r _ [252, 253, 254, 255, 256, 257, 258, 259, 260, 261, 262, 263] (by decide +kernel) (by decide +kernel)
set_option maxRecDepth 20000 in
theorem ggL_law_X15_approach_k5 : GoodIn wsL_law wsX150 := goodIn_r _ [1182, 1183] (by decide +kernel) (by decide +kernel)
set_option maxRecDepth 20000 in
theorem ggL_law_X15_approach_k6 : GoodIn wsL_law wsX140 := goodIn_r _ [1231, 1232, 1233, 1234, 1235, 1236, 1237, 1238, 1239, 1240, 1241, 1242, 1243, 1244] (by decide +kernel) (by decide +kernel)
set_option maxRecDepth 20000 in
theorem ggL_law_X15_approach_k7 : GoodIn wsL_law wsX130 := goodIn_r _ [1267, 1268, 1269, 1270] (by decide +kernel) (by decide +kernel)
set_option maxRecDepth 20000 in
theorem ggL_law_X15_approach_k8 : GoodIn wsL_law wsJx4a65c0 := goodIn_r _ [1245, 1246, 1247] (by decide +kernel) (by decide +kernel)
set_option maxRecDepth 20000 in
theorem ggL_law_X15_approach : GoodIn wsL_law wsX15_approach := goodIn_cons1 ggL_law_X15_approach_k0 (goodIn_app (goodIn_app (goodIn_app (goodIn_app (goodIn_app ggL_law_X15_approach_k1 (goodIn_app ggL_law_X15_approach_k2 (goodIn_app ggL_law_X15_approach_k3 ggL_law_X15_approach_k4))) ggL_law_X15_approach_k5) ggL_law_X15_approach_k6) ggL_law_X15_approach_k7) ggL_law_X15_approach_k8)
set_option maxRecDepth 20000 in
theorem gL_law_X15_approach : GoodIn wsL_law (wsV RL 146 RX15 yX15_approach wsX15_approach) := goodIn_app (goodIn_of _ (by decide +kernel)) ggL_law_X15_approach
set_option maxRecDepth 20000 in
theorem ggL_law_L_burn : GoodIn wsL_law wsL_burn := goodIn_ca (goodIn_ca (goodIn_ca (goodIn_ca (goodIn_ca (goodIn_r _ [617, 271, 151, 152, 407, 618, 619, 620, 2, 621, 157, 158, 412, 413, 17, 589, 622, 623, 624, 625, 232, 626, 627, 628, 282, 283, 284, 285, 286, 161, 162, 163, 164, 165, 1180, 1181, 1184, 1185, 1186, 1187, 1188, 1189, 1190, 1191, 1192, 1193, 1194, 1195, 1196, 1197, 1223, 1224, 1225, 1226, 1227, 1228] (by decide +kernel) (by decide +kernel)) (goodIn_sub (fun _ h => List.mem_append_left _ (List.mem_append_left _ (List.mem_append_left _ (List.mem_append_left _ (List.mem_append_left _ (List.mem_append_right _ h)))))) (by decide +kernel))) (goodIn_sub (fun _ h => List.mem_append_left _ (List.mem_append_left _ (List.mem_append_left _ (List.mem_append_left _ (List.mem_append_right _ h))))) (by decide +kernel))) (goodIn_sub (fun _ h => List.mem_append_left _ (List.mem_append_right _ h)) (by decide +kernel))) (goodIn_sub (fun _ h => List.mem_append_left _ (List.mem_append_left _ (List.mem_append_right _ h))) (by decide +kernel))) (goodIn_sub (fun _ h => List.mem_append_left _ (List.mem_append_left _ (List.mem_append_left _ (List.mem_append_right _ h)))) (by decide +kernel))
set_option maxRecDepth 20000 in
theorem gL_law_L_burn : GoodIn wsL_law (va_wsS RL 147 yL_burn wsL_burn) := goodIn_app (goodIn_of _ (by decide +kernel)) ggL_law_L_burn
set_option maxRecDepth 20000 in
theorem ggL_law_X15_burn_k0 : GoodIn wsL_law [.code yX15_burn cX15_burn 4 (some .int)] := goodIn_r _ [632] (by decide +kernel) (by decide +kernel)
set_option maxRecDepth 20000 in
theorem ggL_law_X15_burn_k1 : GoodIn wsL_law wsX15_burn_r1 := goodIn_r _ [111, 603, 633, 634, 635, 636, 625, 232, 626, 637, 638, 639, 640, 5, 641, 190, 191, 192, 117, 193, 194, 182, 183, 184] (by decide +kernel) (by decide +kernel)
set_option maxRecDepth 20000 in
theorem ggL_law_X15_burn_k2 : GoodIn wsL_law wsX15_burn_r2 := goodIn_r _ [185, 186, 187, 188, 189, 334, 335, 336, 337, 338, 339, 340, 341, 342, 343, 344, 345, 346, 347, 348, 349, 136] (by decide +kernel) (by decide +kernel)
set_option maxRecDepth 20000 in
theorem ggL_law_X15_burn_k3 : GoodIn wsL_law wsX150 := goodIn_r _ [1182, 1183] (by decide +kernel) (by decide +kernel)
set_option maxRecDepth 20000 in
theorem ggL_law_X15_burn_k4 : GoodIn wsL_law wsX140 := goodIn_r _ [1231, 1232, 1233, 1234, 1235, 1236, 1237, 1238, 1239, 1240, 1241, 1242, 1243, 1244] (by decide +kernel) (by decide +kernel)
set_option maxRecDepth 20000 in
theorem ggL_law_X15_burn_k5 : GoodIn wsL_law wsX130 := goodIn_r _ [1267, 1268, 1269, 1270] (by decide +kernel) (by decide +kernel)
set_option maxRecDepth 20000 in
theorem ggL_law_X15_burn_k6 : GoodIn wsL_law wsJx4a65c0 := goodIn_r _ [1245, 1246, 1247] (by decide +kernel) (by decide +kernel)
set_option maxRecDepth 20000 in
theorem ggL_law_X15_burn : GoodIn wsL_law wsX15_burn := goodIn_cons1 ggL_law_X15_burn_k0 (goodIn_app (goodIn_app (goodIn_app (goodIn_app (goodIn_app ggL_law_X15_burn_k1 ggL_law_X15_burn_k2) ggL_law_X15_burn_k3) ggL_law_X15_burn_k4) ggL_law_X15_burn_k5) ggL_law_X15_burn_k6)
set_option maxRecDepth 20000 in
theorem gL_law_X15_burn : GoodIn wsL_law (wsV RL 149 RX15 yX15_burn wsX15_burn) := goodIn_app (goodIn_of _ (by decide +kernel)) ggL_law_X15_burn
set_option maxRecDepth 20000 in
theorem ggL_law_L_pass_k0 : GoodIn wsL_law [.codeWith yL_pass cL_pass 4 (some .int) [(0, 9, 12, 13), (0, 9, 15, 65)]] := goodIn_r _ [644] (by decide +kernel) (by decide +kernel)
set_option maxRecDepth 20000 in
theorem ggL_law_L_pass_k1 : GoodIn wsL_law wsL_pass_r1 := goodIn_r _ [151, 645, 646, 647, 648, 2, 649, 650, 651, 17, 555, 161, 162, 163, 164, 165, 652, 653, 654, 16, 655, 46, 54, 26] (by decide +kernel) (by decide +kernel)
set_option maxRecDepth 20000 in
theorem ggL_law_L_pass_k2 : GoodIn wsL_law wsL_pass_r2 := goodIn_r _ [38, 656, 657, 658, 659, 660, 661, 42, 662, 663, 664, 665, 666, 667, 41, 668, 89, 90, 669, 670, 671, 53, 672, 673] (by decide +kernel) (by decide +kernel)
set_option maxRecDepth 20000 in
theorem ggL_law_L_pass_k3 : GoodIn wsL_law wsL_pass_r3 := goodIn_r _ [103, 674, 675, 676, 677, 678, 679, 680, 681, 682, 683, 684, 685, 34, 30, 686, 687, 688, 33, 689, 383, 75, 690, 691] (by decide +kernel) (by decide +kernel)
set_option maxRecDepth 20000 in
theorem ggL_law_L_pass_k4 : GoodIn wsL_law wsL_pass_r4 := goodIn_r _ [692, 29, 693, 291, 68, 694, 695, 696, 697, 87, 88, 698, 699, 700, 45, 701, 594, 98, 94, 95, 702, 703, 704, 705] (by decide +kernel) (by decide +kernel)
set_option maxRecDepth 20000 in
theorem ggL_law_L_pass_k5 : GoodIn wsL_law wsL_pass_r5 := goodIn_r _ [97, 706, 707, 708, 709, 710, 49, 50, 711, 712, 713, 714, 48, 47, 715, 716, 717, 718, 719, 720, 721, 258, 232, 259] (by decide +kernel) (by decide +kernel)
set_option maxRecDepth 20000 in
theorem ggL_law_L_pass_k6 : GoodIn wsL_law wsL_pass_r6 := goodIn_r _ [722, 723, 724, 725, 726, 727, 728, 729, 730, 731, 25, 732, 60, 733, 734, 735, 736, 737, 170, 738, 739, 740, 741, 59] (by decide +kernel) (by decide +kernel)
set_option maxRecDepth 20000 in
theorem ggL_law_L_pass_k7 : GoodIn wsL_law wsL_pass_r7 := goodIn_r _ [742, 743, 744, 745, 61, 746, 747, 748, 749, 750, 751, 752, 753, 754, 755, 756, 757, 758, 759, 760, 761, 37, 762, 455] (by decide +kernel) (by decide +kernel)
