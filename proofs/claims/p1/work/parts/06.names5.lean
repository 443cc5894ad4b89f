theorem dX15_eventAt_0 : decode cX15_eventAt 0 = .ok (.iload_n 1, 1) := by decide +kernel
theorem dX15_eventAt_1 : decode cX15_eventAt 1 = .ok (.iconst 0, 1) := by decide +kernel
theorem dX15_eventAt_2 : decode cX15_eventAt 2 = .ok (.aload_n 0, 1) := by decide +kernel
theorem dX15_eventAt_3 : decode cX15_eventAt 3 = .ok (.getfield 10, 3) := by decide +kernel
theorem dX15_eventAt_6 : decode cX15_eventAt 6 = .ok (.getfield 189, 3) := by decide +kernel
theorem dX15_eventAt_9 : decode cX15_eventAt 9 = .ok (.invokeinterface 24 1, 5) := by decide +kernel
theorem dX15_eventAt_14 : decode cX15_eventAt 14 = .ok (.iconst 1, 1) := by decide +kernel
theorem dX15_eventAt_15 : decode cX15_eventAt 15 = .ok (.isub, 1) := by decide +kernel
theorem dX15_eventAt_16 : decode cX15_eventAt 16 = .ok (.invokestatic 30, 3) := by decide +kernel
theorem dX15_eventAt_19 : decode cX15_eventAt 19 = .ok (.ifCond .eq 28, 3) := by decide +kernel
theorem dX15_eventAt_47 : decode cX15_eventAt 47 = .ok (.aload_n 0, 1) := by decide +kernel
theorem dX15_eventAt_48 : decode cX15_eventAt 48 = .ok (.iconst 1, 1) := by decide +kernel
theorem dX15_eventAt_49 : decode cX15_eventAt 49 = .ok (.invokevirtual 198, 3) := by decide +kernel
theorem dX15_eventAt_52 : decode cX15_eventAt 52 = .ok (.i2c, 1) := by decide +kernel
theorem dX15_eventAt_53 : decode cX15_eventAt 53 = .ok (.ireturn, 1) := by decide +kernel
set_option maxRecDepth 20000 in
theorem ggX15_timeLeft_X14_copy_k0 : GoodIn wsX15_timeLeft [.code yX14_copy cX14_copy 5 (some (.object "OrbitdockModel$Station"))] := goodIn_r _ [6] (by decide +kernel) (by decide +kernel)
set_option maxRecDepth 20000 in
theorem ggX15_timeLeft_X14_copy_k1 : GoodIn wsX15_timeLeft wsX14_copy_r1 := goodIn_r _ [7, 8, 5, 9, 10, 11, 12, 13, 14, 15, 16, 17, 18, 19, 20, 21, 22, 23, 24, 25, 26, 27, 28, 29] (by decide +kernel) (by decide +kernel)
set_option maxRecDepth 20000 in
theorem ggX15_timeLeft_X14_copy_k2 : GoodIn wsX15_timeLeft wsX14_copy_r2 := goodIn_r _ [30, 31, 32, 33, 34, 35, 36, 37, 38, 39, 40, 41, 42, 43, 44, 45, 46, 47, 48, 49, 50, 51, 52, 53] (by decide +kernel) (by decide +kernel)
set_option maxRecDepth 20000 in
theorem ggX15_timeLeft_X14_copy_k3 : GoodIn wsX15_timeLeft wsX14_copy_r3 := goodIn_r _ [54, 55, 56, 57, 58, 59, 60, 61, 62, 63, 64, 65, 66, 67, 68, 69, 70, 71, 72, 73, 74, 75, 76, 77] (by decide +kernel) (by decide +kernel)
set_option maxRecDepth 20000 in
theorem ggX15_timeLeft_X14_copy_k4 : GoodIn wsX15_timeLeft wsX14_copy_r4 := goodIn_r _ [78, 79, 80, 81, 82, 83, 84, 85, 86, 87, 88, 89, 90, 91, 92, 93, 94, 95, 96, 97, 98, 99, 100, 101] (by decide +kernel) (by decide +kernel)
set_option maxRecDepth 20000 in
theorem ggX15_timeLeft_X14_copy_k5 : GoodIn wsX15_timeLeft wsX14_copy_r5 := goodIn_r _ [102, 103, 104, 105, 106, 107, 108, 109, 110, 111, 112, 113, 114, 115, 116, 117, 118, 119, 120, 121, 122, 123, 124, 125] (by decide +kernel) (by decide +kernel)
set_option maxRecDepth 20000 in
theorem ggX15_timeLeft_X14_copy_k6 : GoodIn wsX15_timeLeft wsX14_copy_r6 := goodIn_r _ [126, 127, 128, 129, 130, 131, 132, 133, 134, 135, 136, 137, 138, 139, 140, 141, 142, 143, 144, 145, 146, 147, 148, 149] (by decide +kernel) (by decide +kernel)
set_option maxRecDepth 20000 in
theorem ggX15_timeLeft_X14_copy_k7 : GoodIn wsX15_timeLeft wsX14_copy_r7 := goodIn_r _ [150, 151, 152, 153, 154, 155, 156, 157, 158, 159, 160, 161, 162, 163, 164, 165, 166, 167, 168, 169, 170, 171, 172, 173] (by decide +kernel) (by decide +kernel)
set_option maxRecDepth 20000 in
theorem ggX15_timeLeft_X14_copy_k8 : GoodIn wsX15_timeLeft wsX14_copy_r8 := goodIn_r _ [174, 175, 176, 177, 178, 179, 180, 181, 182, 183, 184, 185, 186, 187, 188, 189, 190, 191, 192, 193, 194, 195, 196] (by decide +kernel) (by decide +kernel)
set_option maxRecDepth 20000 in
theorem ggX15_timeLeft_X14_copy_k9 : GoodIn wsX15_timeLeft wsX140 := goodIn_r _ [328, 329, 330, 331, 332, 333, 334, 335, 336, 337, 338, 339, 340, 341] (by decide +kernel) (by decide +kernel)
set_option maxRecDepth 20000 in
theorem ggX15_timeLeft_X14_copy_k10 : GoodIn wsX15_timeLeft wsX110 := goodIn_r _ [342, 343, 344] (by decide +kernel) (by decide +kernel)
set_option maxRecDepth 20000 in
theorem ggX15_timeLeft_X14_copy_k11 : GoodIn wsX15_timeLeft wsX100 := goodIn_r _ [345, 346, 347, 348] (by decide +kernel) (by decide +kernel)
set_option maxRecDepth 20000 in
theorem ggX15_timeLeft_X14_copy_k12 : GoodIn wsX15_timeLeft wsX120 := goodIn_r _ [349, 350, 351] (by decide +kernel) (by decide +kernel)
set_option maxRecDepth 20000 in
theorem ggX15_timeLeft_X14_copy_k13 : GoodIn wsX15_timeLeft wsX130 := goodIn_r _ [352, 353, 354, 355] (by decide +kernel) (by decide +kernel)
set_option maxRecDepth 20000 in
theorem ggX15_timeLeft_X14_copy_k14 : GoodIn wsX15_timeLeft wsJx4a65c0 := goodIn_r _ [356, 357, 358] (by decide +kernel) (by decide +kernel)
set_option maxRecDepth 20000 in
theorem ggX15_timeLeft_X14_copy_k15 : GoodIn wsX15_timeLeft wsJx354110 := goodIn_r _ [359, 360, 361, 362] (by decide +kernel) (by decide +kernel)
set_option maxRecDepth 20000 in
theorem ggX15_timeLeft_X14_copy : GoodIn wsX15_timeLeft wsX14_copy := goodIn_cons1 ggX15_timeLeft_X14_copy_k0 (goodIn_app (goodIn_app (goodIn_app (goodIn_app (goodIn_app (goodIn_app (goodIn_app (goodIn_app ggX15_timeLeft_X14_copy_k1 (goodIn_app ggX15_timeLeft_X14_copy_k2 (goodIn_app ggX15_timeLeft_X14_copy_k3 (goodIn_app ggX15_timeLeft_X14_copy_k4 (goodIn_app ggX15_timeLeft_X14_copy_k5 (goodIn_app ggX15_timeLeft_X14_copy_k6 (goodIn_app ggX15_timeLeft_X14_copy_k7 ggX15_timeLeft_X14_copy_k8))))))) ggX15_timeLeft_X14_copy_k9) ggX15_timeLeft_X14_copy_k10) ggX15_timeLeft_X14_copy_k11) ggX15_timeLeft_X14_copy_k12) ggX15_timeLeft_X14_copy_k13) ggX15_timeLeft_X14_copy_k14) ggX15_timeLeft_X14_copy_k15)
set_option maxRecDepth 20000 in
theorem gX15_timeLeft_X14_copy : GoodIn wsX15_timeLeft (wsV RX15 201 RX14 yX14_copy wsX14_copy) := goodIn_app (goodIn_of _ (by decide +kernel)) ggX15_timeLeft_X14_copy
set_option maxRecDepth 20000 in
theorem ggX15_timeLeft_X14_timeLeft_k0 : GoodIn wsX15_timeLeft [.code yX14_timeLeft cX14_timeLeft 3 (some .int)] := goodIn_r _ [200] (by decide +kernel) (by decide +kernel)
set_option maxRecDepth 20000 in
theorem ggX15_timeLeft_X14_timeLeft_k1 : GoodIn wsX15_timeLeft wsX14_timeLeft_r1 := goodIn_r _ [201, 202, 203, 5, 204, 29, 30, 34, 126, 127, 128, 59, 129, 130, 131, 132, 133, 134, 135, 136, 137, 55, 56, 138] (by decide +kernel) (by decide +kernel)
set_option maxRecDepth 20000 in
theorem ggX15_timeLeft_X14_timeLeft_k2 : GoodIn wsX15_timeLeft wsX14_timeLeft_r2 := goodIn_r _ [139, 81, 140, 141, 142, 143, 144, 145, 146, 147, 148, 149, 150, 151, 152, 153, 154, 205, 206, 207, 208, 9, 11, 209] (by decide +kernel) (by decide +kernel)
set_option maxRecDepth 20000 in
theorem ggX15_timeLeft_X14_timeLeft_k3 : GoodIn wsX15_timeLeft wsX14_timeLeft_r3 := goodIn_r _ [210, 105, 106, 107, 13, 14, 20, 10, 50, 49, 211, 212, 213, 214, 12, 215, 216, 217, 60, 218, 219, 220, 221, 82] (by decide +kernel) (by decide +kernel)
set_option maxRecDepth 20000 in
theorem ggX15_timeLeft_X14_timeLeft_k4 : GoodIn wsX15_timeLeft wsX14_timeLeft_r4 := goodIn_r _ [222, 223, 224, 225, 226, 227, 228, 229, 230, 231, 232, 233, 234, 235, 236, 237, 65, 238, 239, 240, 241, 242, 243, 244] (by decide +kernel) (by decide +kernel)
set_option maxRecDepth 20000 in
theorem ggX15_timeLeft_X14_timeLeft_k5 : GoodIn wsX15_timeLeft wsX14_timeLeft_r5 := goodIn_r _ [245, 80, 83, 84, 85, 86, 246, 247, 248, 249, 250, 251, 252, 253, 254, 255, 256, 257, 162, 163, 164, 165, 166, 167] (by decide +kernel) (by decide +kernel)
set_option maxRecDepth 20000 in
theorem ggX15_timeLeft_X14_timeLeft_k6 : GoodIn wsX15_timeLeft wsX14_timeLeft_r6 := goodIn_r _ [168, 169, 170, 171, 172, 173, 109, 110, 111, 112, 64, 113, 114, 115, 116, 117, 118, 119, 120, 121, 122, 123, 124, 125] (by decide +kernel) (by decide +kernel)
set_option maxRecDepth 20000 in
theorem ggX15_timeLeft_X14_timeLeft_k7 : GoodIn wsX15_timeLeft wsX14_timeLeft_r7 := goodIn_r _ [91, 92, 93, 94, 95, 96, 97, 98, 99, 100, 101, 102, 103, 104, 108, 258, 259, 260, 261, 262, 21, 263, 22, 28] (by decide +kernel) (by decide +kernel)
set_option maxRecDepth 20000 in
theorem ggX15_timeLeft_X14_timeLeft_k8 : GoodIn wsX15_timeLeft wsX14_timeLeft_r8 := goodIn_r _ [264, 265, 266, 267, 37, 38, 42, 44, 48, 43, 268, 269, 270, 271, 47, 46, 272, 26, 27, 273, 274, 275, 25, 276] (by decide +kernel) (by decide +kernel)
set_option maxRecDepth 20000 in
theorem ggX15_timeLeft_X14_timeLeft_k9 : GoodIn wsX15_timeLeft wsX14_timeLeft_r9 := goodIn_r _ [180, 277, 278, 279, 280, 281, 282, 283, 284, 285, 286, 287, 288, 289, 290, 291, 292, 293, 294, 295, 296, 297, 298, 299] (by decide +kernel) (by decide +kernel)
set_option maxRecDepth 20000 in
theorem ggX15_timeLeft_X14_timeLeft_k10 : GoodIn wsX15_timeLeft wsX14_timeLeft_r10 := goodIn_r _ [300, 301, 302, 303, 304, 305, 306, 307, 308, 309, 18, 19, 310, 311, 312, 313, 35, 36, 314, 315, 316, 317, 318, 319] (by decide +kernel) (by decide +kernel)
set_option maxRecDepth 20000 in
theorem ggX15_timeLeft_X14_timeLeft_k11 : GoodIn wsX15_timeLeft wsX14_timeLeft_r11 := goodIn_r _ [320, 321, 322, 323, 324, 325] (by decide +kernel) (by decide +kernel)
set_option maxRecDepth 20000 in
theorem ggX15_timeLeft_X14_timeLeft_k12 : GoodIn wsX15_timeLeft wsX140 := goodIn_r _ [328, 329, 330, 331, 332, 333, 334, 335, 336, 337, 338, 339, 340, 341] (by decide +kernel) (by decide +kernel)
set_option maxRecDepth 20000 in
theorem ggX15_timeLeft_X14_timeLeft_k13 : GoodIn wsX15_timeLeft wsX120 := goodIn_r _ [349, 350, 351] (by decide +kernel) (by decide +kernel)
set_option maxRecDepth 20000 in
theorem ggX15_timeLeft_X14_timeLeft_k14 : GoodIn wsX15_timeLeft wsJx354110 := goodIn_r _ [359, 360, 361, 362] (by decide +kernel) (by decide +kernel)
set_option maxRecDepth 20000 in
theorem ggX15_timeLeft_X14_timeLeft_k15 : GoodIn wsX15_timeLeft wsJx4a65c0 := goodIn_r _ [356, 357, 358] (by decide +kernel) (by decide +kernel)
set_option maxRecDepth 20000 in
theorem ggX15_timeLeft_X14_timeLeft_k16 : GoodIn wsX15_timeLeft wsX110 := goodIn_r _ [342, 343, 344] (by decide +kernel) (by decide +kernel)
set_option maxRecDepth 20000 in
theorem ggX15_timeLeft_X14_timeLeft_k17 : GoodIn wsX15_timeLeft wsX90 := goodIn_r _ [363, 364, 365, 366] (by decide +kernel) (by decide +kernel)
set_option maxRecDepth 20000 in
theorem ggX15_timeLeft_X14_timeLeft_k18 : GoodIn wsX15_timeLeft wsJ110 := goodIn_r _ [367] (by decide +kernel) (by decide +kernel)
set_option maxRecDepth 20000 in
theorem ggX15_timeLeft_X14_timeLeft_k19 : GoodIn wsX15_timeLeft wsX100 := goodIn_r _ [345, 346, 347, 348] (by decide +kernel) (by decide +kernel)
set_option maxRecDepth 20000 in
theorem ggX15_timeLeft_X14_timeLeft_k20 : GoodIn wsX15_timeLeft wsX130 := goodIn_r _ [352, 353, 354, 355] (by decide +kernel) (by decide +kernel)
set_option maxRecDepth 20000 in
theorem ggX15_timeLeft_X14_timeLeft_k21 : GoodIn wsX15_timeLeft wsJ60 := goodIn_r _ [368] (by decide +kernel) (by decide +kernel)
set_option maxRecDepth 20000 in
theorem ggX15_timeLeft_X14_timeLeft : GoodIn wsX15_timeLeft wsX14_timeLeft := goodIn_cons1 ggX15_timeLeft_X14_timeLeft_k0 (goodIn_app (goodIn_app (goodIn_app (goodIn_app (goodIn_app (goodIn_app (goodIn_app (goodIn_app (goodIn_app (goodIn_app (goodIn_app ggX15_timeLeft_X14_timeLeft_k1 (goodIn_app ggX15_timeLeft_X14_timeLeft_k2 (goodIn_app ggX15_timeLeft_X14_timeLeft_k3 (goodIn_app ggX15_timeLeft_X14_timeLeft_k4 (goodIn_app ggX15_timeLeft_X14_timeLeft_k5 (goodIn_app ggX15_timeLeft_X14_timeLeft_k6 (goodIn_app ggX15_timeLeft_X14_timeLeft_k7 (goodIn_app ggX15_timeLeft_X14_timeLeft_k8 (goodIn_app ggX15_timeLeft_X14_timeLeft_k9 (goodIn_app ggX15_timeLeft_X14_timeLeft_k10 ggX15_timeLeft_X14_timeLeft_k11)))))))))) ggX15_timeLeft_X14_timeLeft_k12) ggX15_timeLeft_X14_timeLeft_k13) ggX15_timeLeft_X14_timeLeft_k14) ggX15_timeLeft_X14_timeLeft_k15) ggX15_timeLeft_X14_timeLeft_k16) ggX15_timeLeft_X14_timeLeft_k17) ggX15_timeLeft_X14_timeLeft_k18) ggX15_timeLeft_X14_timeLeft_k19) ggX15_timeLeft_X14_timeLeft_k20) ggX15_timeLeft_X14_timeLeft_k21)
set_option maxRecDepth 20000 in
theorem gX15_timeLeft_X14_timeLeft : GoodIn wsX15_timeLeft (wsV RX15 205 RX14 yX14_timeLeft wsX14_timeLeft) := goodIn_app (goodIn_of _ (by decide +kernel)) ggX15_timeLeft_X14_timeLeft
theorem dX15_timeLeft_0 : decode cX15_timeLeft 0 = .ok (.aload_n 0, 1) := by decide +kernel
theorem dX15_timeLeft_1 : decode cX15_timeLeft 1 = .ok (.getfield 10, 3) := by decide +kernel
theorem dX15_timeLeft_4 : decode cX15_timeLeft 4 = .ok (.invokevirtual 201, 3) := by decide +kernel
theorem dX15_timeLeft_7 : decode cX15_timeLeft 7 = .ok (.invokevirtual 205, 3) := by decide +kernel
theorem dX15_timeLeft_10 : decode cX15_timeLeft 10 = .ok (.ireturn, 1) := by decide +kernel
set_option maxRecDepth 20000 in
theorem ggX15_worst_X15_timeLeft_k0 : GoodIn wsX15_worst [.code yX15_timeLeft cX15_timeLeft 1 (some .int)] := goodIn_r _ [13] (by decide +kernel) (by decide +kernel)
set_option maxRecDepth 20000 in
theorem ggX15_worst_X15_timeLeft_k1 : GoodIn wsX15_worst wsX15_timeLeft_r1 := goodIn_r _ [1, 14, 15, 16, 17, 18, 19, 20, 21, 22, 23, 24, 25, 26, 27, 28, 29, 30, 31, 32, 33, 34, 35, 36] (by decide +kernel) (by decide +kernel)
set_option maxRecDepth 20000 in
theorem ggX15_worst_X15_timeLeft_k2 : GoodIn wsX15_worst wsX15_timeLeft_r2 := goodIn_r _ [37, 38, 39, 40, 41, 42, 43, 44, 45, 46, 47, 48, 49, 50, 51, 52, 53, 54, 55, 56, 57, 58, 59, 60] (by decide +kernel) (by decide +kernel)
set_option maxRecDepth 20000 in
theorem ggX15_worst_X15_timeLeft_k3 : GoodIn wsX15_worst wsX15_timeLeft_r3 := goodIn_r _ [61, 62, 63, 64, 65, 66, 67, 68, 69, 70, 71, 72, 73, 74, 75, 76, 77, 78, 79, 80, 81, 82, 83, 84] (by decide +kernel) (by decide +kernel)
set_option maxRecDepth 20000 in
theorem ggX15_worst_X15_timeLeft_k4 : GoodIn wsX15_worst wsX15_timeLeft_r4 := goodIn_r _ [85, 86, 87, 88, 89, 90, 91, 92, 93, 94, 95, 96, 97, 98, 99, 100, 101, 102, 103, 104, 105, 106, 107, 108] (by decide +kernel) (by decide +kernel)
set_option maxRecDepth 20000 in
theorem ggX15_worst_X15_timeLeft_k5 : GoodIn wsX15_worst wsX15_timeLeft_r5 := goodIn_r _ [109, 110, 111, 112, 113, 114, 115, 116, 6, 7, 8, 117, 118, 119, 120, 121, 122, 123, 124, 125, 126, 127, 128, 129] (by decide +kernel) (by decide +kernel)
set_option maxRecDepth 20000 in
theorem ggX15_worst_X15_timeLeft_k6 : GoodIn wsX15_worst wsX15_timeLeft_r6 := goodIn_r _ [130, 131, 132, 133, 134, 135, 136, 137, 138, 139, 140, 141, 142, 143, 144, 145, 146, 147, 148, 149, 150, 151, 152, 153] (by decide +kernel) (by decide +kernel)
set_option maxRecDepth 20000 in
theorem ggX15_worst_X15_timeLeft_k7 : GoodIn wsX15_worst wsX15_timeLeft_r7 := goodIn_r _ [154, 155, 156, 157, 158, 159, 160, 161, 162, 163, 164, 165, 166, 167, 168, 169, 170, 171, 172, 173, 174, 175, 176, 177] (by decide +kernel) (by decide +kernel)
set_option maxRecDepth 20000 in
theorem ggX15_worst_X15_timeLeft_k8 : GoodIn wsX15_worst wsX15_timeLeft_r8 := goodIn_r _ [178, 179, 180, 181, 182, 183, 184, 185, 186, 187, 188, 189, 190, 191, 192, 193, 194, 195, 196, 197, 198, 199, 200, 201] (by decide +kernel) (by decide +kernel)
set_option maxRecDepth 20000 in
theorem ggX15_worst_X15_timeLeft_k9 : GoodIn wsX15_worst wsX15_timeLeft_r9 := goodIn_r _ [202, 203, 204, 205, 206, 207, 208, 209, 210, 211, 212, 213, 214, 215, 216, 217, 218, 219, 220, 221, 222, 223, 224, 225] (by decide +kernel) (by decide +kernel)
set_option maxRecDepth 20000 in
theorem ggX15_worst_X15_timeLeft_k10 : GoodIn wsX15_worst wsX15_timeLeft_r10 := goodIn_r _ [226, 227, 228, 229, 230, 231, 232, 233, 234, 235, 236, 237, 238, 239, 240, 241, 242, 243, 244, 245, 246, 247, 248, 249] (by decide +kernel) (by decide +kernel)
set_option maxRecDepth 20000 in
theorem ggX15_worst_X15_timeLeft_k11 : GoodIn wsX15_worst wsX15_timeLeft_r11 := goodIn_r _ [250, 251, 252, 253, 254, 255, 256, 257, 258, 259, 260, 261, 262, 263, 264, 265, 266, 267, 268, 269, 270, 271, 272, 273] (by decide +kernel) (by decide +kernel)
set_option maxRecDepth 20000 in
theorem ggX15_worst_X15_timeLeft_k12 : GoodIn wsX15_worst wsX15_timeLeft_r12 := goodIn_r _ [274, 275, 276, 277, 278, 279, 280, 281, 282, 283, 284, 285, 286, 287, 288, 289, 290, 291, 292, 293, 294, 295, 296, 297] (by decide +kernel) (by decide +kernel)
set_option maxRecDepth 20000 in
theorem ggX15_worst_X15_timeLeft_k13 : GoodIn wsX15_worst wsX15_timeLeft_r13 := goodIn_r _ [298, 299, 300, 301, 302, 303, 304, 305, 306, 307, 308, 309, 310, 311, 312, 313, 314, 315, 316, 317, 318, 319, 320, 321] (by decide +kernel) (by decide +kernel)
set_option maxRecDepth 20000 in
theorem ggX15_worst_X15_timeLeft_k14 : GoodIn wsX15_worst wsX15_timeLeft_r14 := goodIn_r _ [322, 323, 324, 325, 326, 327, 328, 329, 330, 331, 332, 333, 334] (by decide +kernel) (by decide +kernel)
set_option maxRecDepth 20000 in
theorem ggX15_worst_X15_timeLeft_k15 : GoodIn wsX15_worst wsX150 := goodIn_r _ [337, 338] (by decide +kernel) (by decide +kernel)
set_option maxRecDepth 20000 in
theorem ggX15_worst_X15_timeLeft_k16 : GoodIn wsX15_worst wsX140 := goodIn_r _ [339, 340, 341, 342, 343, 344, 345, 346, 347, 348, 349, 350, 351, 352] (by decide +kernel) (by decide +kernel)
set_option maxRecDepth 20000 in
theorem ggX15_worst_X15_timeLeft_k17 : GoodIn wsX15_worst wsX110 := goodIn_r _ [357, 358, 359] (by decide +kernel) (by decide +kernel)
set_option maxRecDepth 20000 in
theorem ggX15_worst_X15_timeLeft_k18 : GoodIn wsX15_worst wsX100 := goodIn_r _ [353, 354, 355, 356] (by decide +kernel) (by decide +kernel)
set_option maxRecDepth 20000 in
theorem ggX15_worst_X15_timeLeft_k19 : GoodIn wsX15_worst wsX120 := goodIn_r _ [360, 361, 362] (by decide +kernel) (by decide +kernel)
set_option maxRecDepth 20000 in
theorem ggX15_worst_X15_timeLeft_k20 : GoodIn wsX15_worst wsX130 := goodIn_r _ [363, 364, 365, 366] (by decide +kernel) (by decide +kernel)
set_option maxRecDepth 20000 in
theorem ggX15_worst_X15_timeLeft_k21 : GoodIn wsX15_worst wsJx4a65c0 := goodIn_r _ [367, 368, 369] (by decide +kernel) (by decide +kernel)
set_option maxRecDepth 20000 in
theorem ggX15_worst_X15_timeLeft_k22 : GoodIn wsX15_worst wsJx354110 := goodIn_r _ [370, 371, 372, 373] (by decide +kernel) (by decide +kernel)
set_option maxRecDepth 20000 in
theorem ggX15_worst_X15_timeLeft_k23 : GoodIn wsX15_worst wsX90 := goodIn_r _ [374, 375, 376, 377] (by decide +kernel) (by decide +kernel)
set_option maxRecDepth 20000 in
theorem ggX15_worst_X15_timeLeft_k24 : GoodIn wsX15_worst wsJ110 := goodIn_r _ [378] (by decide +kernel) (by decide +kernel)
set_option maxRecDepth 20000 in
theorem ggX15_worst_X15_timeLeft_k25 : GoodIn wsX15_worst wsJ60 := goodIn_r _ [379] (by decide +kernel) (by decide +kernel)
set_option maxRecDepth 20000 in
theorem ggX15_worst_X15_timeLeft : GoodIn wsX15_worst wsX15_timeLeft := goodIn_cons1 ggX15_worst_X15_timeLeft_k0 (goodIn_app (goodIn_app (goodIn_app (goodIn_app (goodIn_app (goodIn_app (goodIn_app (goodIn_app (goodIn_app (goodIn_app (goodIn_app (goodIn_app ggX15_worst_X15_timeLeft_k1 (goodIn_app ggX15_worst_X15_timeLeft_k2 (goodIn_app ggX15_worst_X15_timeLeft_k3 (goodIn_app ggX15_worst_X15_timeLeft_k4 (goodIn_app ggX15_worst_X15_timeLeft_k5 (goodIn_app ggX15_worst_X15_timeLeft_k6 (goodIn_app ggX15_worst_X15_timeLeft_k7 (goodIn_app ggX15_worst_X15_timeLeft_k8 (goodIn_app ggX15_worst_X15_timeLeft_k9 (goodIn_app ggX15_worst_X15_timeLeft_k10 (goodIn_app ggX15_worst_X15_timeLeft_k11 (goodIn_app ggX15_worst_X15_timeLeft_k12 (goodIn_app ggX15_worst_X15_timeLeft_k13 ggX15_worst_X15_timeLeft_k14))))))))))))) ggX15_worst_X15_timeLeft_k15) ggX15_worst_X15_timeLeft_k16) ggX15_worst_X15_timeLeft_k17) ggX15_worst_X15_timeLeft_k18) ggX15_worst_X15_timeLeft_k19) ggX15_worst_X15_timeLeft_k20) ggX15_worst_X15_timeLeft_k21) ggX15_worst_X15_timeLeft_k22) ggX15_worst_X15_timeLeft_k23) ggX15_worst_X15_timeLeft_k24) ggX15_worst_X15_timeLeft_k25)
set_option maxRecDepth 20000 in
theorem gX15_worst_X15_timeLeft : GoodIn wsX15_worst (wsV RX15 208 RX15 yX15_timeLeft wsX15_timeLeft) := goodIn_app (goodIn_of _ (by decide +kernel)) ggX15_worst_X15_timeLeft
set_option maxRecDepth 20000 in
theorem ggX15_worst_Jx4a65c_size_8abf5 : GoodIn wsX15_worst wsJx4a65c_size_8abf5 := goodIn_r _ [230, 94, 367, 368, 369] (by decide +kernel) (by decide +kernel)
set_option maxRecDepth 20000 in
theorem gX15_worst_Jx4a65c_size_8abf5_f24Jx4a65c : GoodIn wsX15_worst (va_wsF RX15 24 RJx4a65c ⟨"java/util/List", "size", "()I"⟩ yJx4a65c_size_8abf5 wsJx4a65c_size_8abf5) := goodIn_app (goodIn_of _ (by decide +kernel)) ggX15_worst_Jx4a65c_size_8abf5
theorem dX15_worst_0 : decode cX15_worst 0 = .ok (.aload_n 0, 1) := by decide +kernel
theorem dX15_worst_1 : decode cX15_worst 1 = .ok (.invokevirtual 208, 3) := by decide +kernel
theorem dX15_worst_4 : decode cX15_worst 4 = .ok (.istore_n 1, 1) := by decide +kernel
theorem dX15_worst_5 : decode cX15_worst 5 = .ok (.iconst 0, 1) := by decide +kernel
theorem dX15_worst_6 : decode cX15_worst 6 = .ok (.istore_n 2, 1) := by decide +kernel
theorem dX15_worst_7 : decode cX15_worst 7 = .ok (.iload_n 2, 1) := by decide +kernel
theorem dX15_worst_8 : decode cX15_worst 8 = .ok (.aload_n 0, 1) := by decide +kernel
theorem dX15_worst_9 : decode cX15_worst 9 = .ok (.getfield 10, 3) := by decide +kernel
theorem dX15_worst_12 : decode cX15_worst 12 = .ok (.getfield 37, 3) := by decide +kernel
theorem dX15_worst_15 : decode cX15_worst 15 = .ok (.invokeinterface 24 1, 5) := by decide +kernel
theorem dX15_worst_20 : decode cX15_worst 20 = .ok (.if_icmp .ge 43, 3) := by decide +kernel
theorem dX15_worst_63 : decode cX15_worst 63 = .ok (.iload_n 1, 1) := by decide +kernel
theorem dX15_worst_64 : decode cX15_worst 64 = .ok (.ireturn, 1) := by decide +kernel
set_option maxRecDepth 20000 in
theorem ggX15_checksum_Jx4a65c_size_8abf5 : GoodIn wsX15_checksum wsJx4a65c_size_8abf5 := goodIn_r _ [11, 12, 52, 53, 54] (by decide +kernel) (by decide +kernel)
set_option maxRecDepth 20000 in
theorem gX15_checksum_Jx4a65c_size_8abf5_f24Jx4a65c : GoodIn wsX15_checksum (va_wsF RX15 24 RJx4a65c ⟨"java/util/List", "size", "()I"⟩ yJx4a65c_size_8abf5 wsJx4a65c_size_8abf5) := goodIn_app (goodIn_of _ (by decide +kernel)) ggX15_checksum_Jx4a65c_size_8abf5
theorem dX15_checksum_0 : decode cX15_checksum 0 = .ok (.lconst 0, 1) := by decide +kernel
theorem dX15_checksum_1 : decode cX15_checksum 1 = .ok (.lstore_n 1, 1) := by decide +kernel
theorem dX15_checksum_2 : decode cX15_checksum 2 = .ok (.iconst 0, 1) := by decide +kernel
theorem dX15_checksum_3 : decode cX15_checksum 3 = .ok (.istore_n 3, 1) := by decide +kernel
theorem dX15_checksum_4 : decode cX15_checksum 4 = .ok (.iload_n 3, 1) := by decide +kernel
theorem dX15_checksum_5 : decode cX15_checksum 5 = .ok (.aload_n 0, 1) := by decide +kernel
theorem dX15_checksum_6 : decode cX15_checksum 6 = .ok (.getfield 10, 3) := by decide +kernel
theorem dX15_checksum_9 : decode cX15_checksum 9 = .ok (.getfield 20, 3) := by decide +kernel
theorem dX15_checksum_12 : decode cX15_checksum 12 = .ok (.invokeinterface 24 1, 5) := by decide +kernel
theorem dX15_checksum_17 : decode cX15_checksum 17 = .ok (.if_icmp .ge 61, 3) := by decide +kernel
theorem dX15_checksum_78 : decode cX15_checksum 78 = .ok (.lload_n 1, 1) := by decide +kernel
theorem dX15_checksum_79 : decode cX15_checksum 79 = .ok (.lreturn, 1) := by decide +kernel
set_option maxRecDepth 20000 in
theorem ggX15_aliveShare_Jx4a65c_size_8abf5 : GoodIn wsX15_aliveShare wsJx4a65c_size_8abf5 := goodIn_r _ [7, 8, 71, 72, 73] (by decide +kernel) (by decide +kernel)
set_option maxRecDepth 20000 in
theorem gX15_aliveShare_Jx4a65c_size_8abf5_f24Jx4a65c : GoodIn wsX15_aliveShare (va_wsF RX15 24 RJx4a65c ⟨"java/util/List", "size", "()I"⟩ yJx4a65c_size_8abf5 wsJx4a65c_size_8abf5) := goodIn_app (goodIn_of _ (by decide +kernel)) ggX15_aliveShare_Jx4a65c_size_8abf5
set_option maxRecDepth 20000 in
theorem ggX15_aliveShare_X15_no : GoodIn wsX15_aliveShare wsX15_no := goodIn_r _ [13, 14, 55, 56] (by decide +kernel) (by decide +kernel)
set_option maxRecDepth 20000 in
theorem gX15_aliveShare_X15_no : GoodIn wsX15_aliveShare (wsV RX15 43 RX15 yX15_no wsX15_no) := goodIn_app (goodIn_of _ (by decide +kernel)) ggX15_aliveShare_X15_no
theorem dX15_aliveShare_0 : decode cX15_aliveShare 0 = .ok (.aload_n 0, 1) := by decide +kernel
theorem dX15_aliveShare_1 : decode cX15_aliveShare 1 = .ok (.getfield 10, 3) := by decide +kernel
theorem dX15_aliveShare_4 : decode cX15_aliveShare 4 = .ok (.getfield 40, 3) := by decide +kernel
theorem dX15_aliveShare_7 : decode cX15_aliveShare 7 = .ok (.invokeinterface 24 1, 5) := by decide +kernel
theorem dX15_aliveShare_12 : decode cX15_aliveShare 12 = .ok (.istore_n 1, 1) := by decide +kernel
theorem dX15_aliveShare_13 : decode cX15_aliveShare 13 = .ok (.aload_n 0, 1) := by decide +kernel
theorem dX15_aliveShare_14 : decode cX15_aliveShare 14 = .ok (.iload_n 1, 1) := by decide +kernel
theorem dX15_aliveShare_15 : decode cX15_aliveShare 15 = .ok (.ifCond .le 7, 3) := by decide +kernel
theorem dX15_aliveShare_22 : decode cX15_aliveShare 22 = .ok (.iconst 0, 1) := by decide +kernel
theorem dX15_aliveShare_23 : decode cX15_aliveShare 23 = .ok (.iconst 1, 1) := by decide +kernel
theorem dX15_aliveShare_24 : decode cX15_aliveShare 24 = .ok (.invokevirtual 43, 3) := by decide +kernel
theorem dX15_aliveShare_27 : decode cX15_aliveShare 27 = .ok (.ifCond .eq 7, 3) := by decide +kernel
theorem dX15_aliveShare_30 : decode cX15_aliveShare 30 = .ok (.fconst 0, 1) := by decide +kernel
theorem dX15_aliveShare_31 : decode cX15_aliveShare 31 = .ok (.goto 14, 3) := by decide +kernel
theorem dX15_aliveShare_45 : decode cX15_aliveShare 45 = .ok (.freturn, 1) := by decide +kernel
set_option maxRecDepth 20000 in
theorem ggX15_meanOxygen_Jx4a65c_isEmpty_aae02 : GoodIn wsX15_meanOxygen wsJx4a65c_isEmpty_aae02 := goodIn_r _ [8, 9, 74, 75, 76] (by decide +kernel) (by decide +kernel)
set_option maxRecDepth 20000 in
theorem gX15_meanOxygen_Jx4a65c_isEmpty_aae02_f223Jx4a65c : GoodIn wsX15_meanOxygen (va_wsF RX15 223 RJx4a65c ⟨"java/util/List", "isEmpty", "()Z"⟩ yJx4a65c_isEmpty_aae02 wsJx4a65c_isEmpty_aae02) := goodIn_app (goodIn_of _ (by decide +kernel)) ggX15_meanOxygen_Jx4a65c_isEmpty_aae02
set_option maxRecDepth 20000 in
theorem ggX15_meanOxygen_X15_no : GoodIn wsX15_meanOxygen wsX15_no := goodIn_r _ [14, 15, 58, 59] (by decide +kernel) (by decide +kernel)
set_option maxRecDepth 20000 in
theorem gX15_meanOxygen_X15_no : GoodIn wsX15_meanOxygen (wsV RX15 43 RX15 yX15_no wsX15_no) := goodIn_app (goodIn_of _ (by decide +kernel)) ggX15_meanOxygen_X15_no
theorem dX15_meanOxygen_0 : decode cX15_meanOxygen 0 = .ok (.aload_n 0, 1) := by decide +kernel
theorem dX15_meanOxygen_1 : decode cX15_meanOxygen 1 = .ok (.aload_n 0, 1) := by decide +kernel
theorem dX15_meanOxygen_2 : decode cX15_meanOxygen 2 = .ok (.getfield 10, 3) := by decide +kernel
theorem dX15_meanOxygen_5 : decode cX15_meanOxygen 5 = .ok (.getfield 20, 3) := by decide +kernel
theorem dX15_meanOxygen_8 : decode cX15_meanOxygen 8 = .ok (.invokeinterface 223 1, 5) := by decide +kernel
theorem dX15_meanOxygen_13 : decode cX15_meanOxygen 13 = .ok (.ifCond .ne 7, 3) := by decide +kernel
theorem dX15_meanOxygen_20 : decode cX15_meanOxygen 20 = .ok (.iconst 0, 1) := by decide +kernel
theorem dX15_meanOxygen_21 : decode cX15_meanOxygen 21 = .ok (.iconst 1, 1) := by decide +kernel
theorem dX15_meanOxygen_22 : decode cX15_meanOxygen 22 = .ok (.invokevirtual 43, 3) := by decide +kernel
theorem dX15_meanOxygen_25 : decode cX15_meanOxygen 25 = .ok (.ifCond .eq 5, 3) := by decide +kernel
theorem dX15_meanOxygen_28 : decode cX15_meanOxygen 28 = .ok (.dconst 0, 1) := by decide +kernel
theorem dX15_meanOxygen_29 : decode cX15_meanOxygen 29 = .ok (.dreturn, 1) := by decide +kernel
theorem dX15_isSound_0 : decode cX15_isSound 0 = .ok (.iconst 1, 1) := by decide +kernel
theorem dX15_isSound_1 : decode cX15_isSound 1 = .ok (.ireturn, 1) := by decide +kernel
set_option maxRecDepth 20000 in
theorem ggJ6_valueOf_2dffe_J6_init_d00df : GoodIn wsJ6_valueOf_2dffe wsJ6_init_d00df := goodIn_r _ [8, 9, 10, 11, 12, 13, 14, 15, 16, 17] (by decide +kernel) (by decide +kernel)
set_option maxRecDepth 20000 in
theorem gJ6_valueOf_2dffe_J6_init_d00df : GoodIn wsJ6_valueOf_2dffe (wsJ6_init_d00df) := ggJ6_valueOf_2dffe_J6_init_d00df
theorem dJ6_valueOf_2dffe_0 : decode cJ6_valueOf_2dffe 0 = .ok (.iload_n 0, 1) := by decide +kernel
theorem dJ6_valueOf_2dffe_1 : decode cJ6_valueOf_2dffe 1 = .ok (.bipush (-128), 2) := by decide +kernel
theorem dJ6_valueOf_2dffe_3 : decode cJ6_valueOf_2dffe 3 = .ok (.if_icmp .lt 20, 3) := by decide +kernel
theorem dJ6_valueOf_2dffe_6 : decode cJ6_valueOf_2dffe 6 = .ok (.iload_n 0, 1) := by decide +kernel
theorem dJ6_valueOf_2dffe_7 : decode cJ6_valueOf_2dffe 7 = .ok (.getstatic 191, 3) := by decide +kernel
theorem dJ6_valueOf_2dffe_10 : decode cJ6_valueOf_2dffe 10 = .ok (.if_icmp .gt 13, 3) := by decide +kernel
theorem dJ6_valueOf_2dffe_13 : decode cJ6_valueOf_2dffe 13 = .ok (.getstatic 195, 3) := by decide +kernel
theorem dJ6_valueOf_2dffe_16 : decode cJ6_valueOf_2dffe 16 = .ok (.iload_n 0, 1) := by decide +kernel
theorem dJ6_valueOf_2dffe_17 : decode cJ6_valueOf_2dffe 17 = .ok (.sipush 128, 3) := by decide +kernel
theorem dJ6_valueOf_2dffe_20 : decode cJ6_valueOf_2dffe 20 = .ok (.iadd, 1) := by decide +kernel
theorem dJ6_valueOf_2dffe_21 : decode cJ6_valueOf_2dffe 21 = .ok (.aaload, 1) := by decide +kernel
theorem dJ6_valueOf_2dffe_22 : decode cJ6_valueOf_2dffe 22 = .ok (.areturn, 1) := by decide +kernel
theorem dJ6_valueOf_2dffe_23 : decode cJ6_valueOf_2dffe 23 = .ok (.new 1, 3) := by decide +kernel
theorem dJ6_valueOf_2dffe_26 : decode cJ6_valueOf_2dffe 26 = .ok (.dup, 1) := by decide +kernel
theorem dJ6_valueOf_2dffe_27 : decode cJ6_valueOf_2dffe 27 = .ok (.iload_n 0, 1) := by decide +kernel
theorem dJ6_valueOf_2dffe_28 : decode cJ6_valueOf_2dffe 28 = .ok (.invokespecial 199, 3) := by decide +kernel
theorem dJ6_valueOf_2dffe_31 : decode cJ6_valueOf_2dffe 31 = .ok (.areturn, 1) := by decide +kernel
set_option maxRecDepth 20000 in
theorem ggJ6_init_d00df_Jxd2413_init_da8c8 : GoodIn wsJ6_init_d00df wsJxd2413_init_da8c8 := goodIn_r _ [5, 6, 7, 8] (by decide +kernel) (by decide +kernel)
set_option maxRecDepth 20000 in
theorem gJ6_init_d00df_Jxd2413_init_da8c8 : GoodIn wsJ6_init_d00df (wsJxd2413_init_da8c8) := ggJ6_init_d00df_Jxd2413_init_da8c8
theorem dJ6_init_d00df_0 : decode cJ6_init_d00df 0 = .ok (.aload_n 0, 1) := by decide +kernel
theorem dJ6_init_d00df_1 : decode cJ6_init_d00df 1 = .ok (.invokespecial 202, 3) := by decide +kernel
theorem dJ6_init_d00df_4 : decode cJ6_init_d00df 4 = .ok (.aload_n 0, 1) := by decide +kernel
theorem dJ6_init_d00df_5 : decode cJ6_init_d00df 5 = .ok (.iload_n 1, 1) := by decide +kernel
theorem dJ6_init_d00df_6 : decode cJ6_init_d00df 6 = .ok (.putfield 205, 3) := by decide +kernel
theorem dJ6_init_d00df_9 : decode cJ6_init_d00df 9 = .ok (.return_, 1) := by decide +kernel
theorem dJxd2413_init_da8c8_0 : decode cJxd2413_init_da8c8 0 = .ok (.aload_n 0, 1) := by decide +kernel
theorem dJxd2413_init_da8c8_1 : decode cJxd2413_init_da8c8 1 = .ok (.invokespecial 1, 3) := by decide +kernel
theorem dJxd2413_init_da8c8_4 : decode cJxd2413_init_da8c8 4 = .ok (.return_, 1) := by decide +kernel
theorem dJxa1e45_init_da8c8_0 : decode cJxa1e45_init_da8c8 0 = .ok (.aload_n 0, 1) := by decide +kernel
theorem dJxa1e45_init_da8c8_1 : decode cJxa1e45_init_da8c8 1 = .ok (.invokespecial 1, 3) := by decide +kernel
theorem dJxa1e45_init_da8c8_4 : decode cJxa1e45_init_da8c8 4 = .ok (.return_, 1) := by decide +kernel
set_option maxRecDepth 20000 in
theorem ggJxc12de_init_da8c8_Jxa1e45_init_da8c8 : GoodIn wsJxc12de_init_da8c8 wsJxa1e45_init_da8c8 := goodIn_r _ [5, 6, 7, 8] (by decide +kernel) (by decide +kernel)
set_option maxRecDepth 20000 in
theorem gJxc12de_init_da8c8_Jxa1e45_init_da8c8 : GoodIn wsJxc12de_init_da8c8 (wsJxa1e45_init_da8c8) := ggJxc12de_init_da8c8_Jxa1e45_init_da8c8
theorem dJxc12de_init_da8c8_0 : decode cJxc12de_init_da8c8 0 = .ok (.aload_n 0, 1) := by decide +kernel
theorem dJxc12de_init_da8c8_1 : decode cJxc12de_init_da8c8 1 = .ok (.invokespecial 1, 3) := by decide +kernel
theorem dJxc12de_init_da8c8_4 : decode cJxc12de_init_da8c8 4 = .ok (.aload_n 0, 1) := by decide +kernel
theorem dJxc12de_init_da8c8_5 : decode cJxc12de_init_da8c8 5 = .ok (.iconst 0, 1) := by decide +kernel
theorem dJxc12de_init_da8c8_6 : decode cJxc12de_init_da8c8 6 = .ok (.putfield 7, 3) := by decide +kernel
theorem dJxc12de_init_da8c8_9 : decode cJxc12de_init_da8c8 9 = .ok (.return_, 1) := by decide +kernel
theorem dJx35411_init_45d68_0 : decode cJx35411_init_45d68 0 = .ok (.aload_n 0, 1) := by decide +kernel
theorem dJx35411_init_45d68_1 : decode cJx35411_init_45d68 1 = .ok (.aload_n 1, 1) := by decide +kernel
theorem dJx35411_init_45d68_2 : decode cJx35411_init_45d68 2 = .ok (.putfield 1, 3) := by decide +kernel
theorem dJx35411_init_45d68_5 : decode cJx35411_init_45d68 5 = .ok (.aload_n 0, 1) := by decide +kernel
theorem dJx35411_init_45d68_6 : decode cJx35411_init_45d68 6 = .ok (.invokespecial 7, 3) := by decide +kernel
theorem dJx35411_init_45d68_9 : decode cJx35411_init_45d68 9 = .ok (.aload_n 0, 1) := by decide +kernel
theorem dJx35411_init_45d68_10 : decode cJx35411_init_45d68 10 = .ok (.iconst (-1), 1) := by decide +kernel
theorem dJx35411_init_45d68_11 : decode cJx35411_init_45d68 11 = .ok (.putfield 13, 3) := by decide +kernel
theorem dJx35411_init_45d68_14 : decode cJx35411_init_45d68 14 = .ok (.aload_n 0, 1) := by decide +kernel
theorem dJx35411_init_45d68_15 : decode cJx35411_init_45d68 15 = .ok (.aload_n 0, 1) := by decide +kernel
theorem dJx35411_init_45d68_16 : decode cJx35411_init_45d68 16 = .ok (.getfield 1, 3) := by decide +kernel
theorem dJx35411_init_45d68_19 : decode cJx35411_init_45d68 19 = .ok (.getfield 17, 3) := by decide +kernel
theorem dJx35411_init_45d68_22 : decode cJx35411_init_45d68 22 = .ok (.putfield 22, 3) := by decide +kernel
theorem dJx35411_init_45d68_25 : decode cJx35411_init_45d68 25 = .ok (.return_, 1) := by decide +kernel
theorem dJx35411_hasNext_aae02_0 : decode cJx35411_hasNext_aae02 0 = .ok (.aload_n 0, 1) := by decide +kernel
theorem dJx35411_hasNext_aae02_1 : decode cJx35411_hasNext_aae02 1 = .ok (.getfield 25, 3) := by decide +kernel
theorem dJx35411_hasNext_aae02_4 : decode cJx35411_hasNext_aae02 4 = .ok (.aload_n 0, 1) := by decide +kernel
theorem dJx35411_hasNext_aae02_5 : decode cJx35411_hasNext_aae02 5 = .ok (.getfield 1, 3) := by decide +kernel
theorem dJx35411_hasNext_aae02_8 : decode cJx35411_hasNext_aae02 8 = .ok (.getfield 28, 3) := by decide +kernel
theorem dJx35411_hasNext_aae02_11 : decode cJx35411_hasNext_aae02 11 = .ok (.if_icmp .eq 7, 3) := by decide +kernel
theorem dJx35411_hasNext_aae02_18 : decode cJx35411_hasNext_aae02 18 = .ok (.iconst 0, 1) := by decide +kernel
theorem dJx35411_hasNext_aae02_19 : decode cJx35411_hasNext_aae02 19 = .ok (.ireturn, 1) := by decide +kernel
set_option maxRecDepth 20000 in
theorem ggJx4a65c_init_da8c8_Jxc12de_init_da8c8 : GoodIn wsJx4a65c_init_da8c8 wsJxc12de_init_da8c8 := goodIn_r _ [6, 7, 8, 9, 10, 11, 12, 13, 14, 15, 16, 17] (by decide +kernel) (by decide +kernel)
set_option maxRecDepth 20000 in
theorem gJx4a65c_init_da8c8_Jxc12de_init_da8c8 : GoodIn wsJx4a65c_init_da8c8 (wsJxc12de_init_da8c8) := ggJx4a65c_init_da8c8_Jxc12de_init_da8c8
theorem dJx4a65c_init_da8c8_0 : decode cJx4a65c_init_da8c8 0 = .ok (.aload_n 0, 1) := by decide +kernel
theorem dJx4a65c_init_da8c8_1 : decode cJx4a65c_init_da8c8 1 = .ok (.invokespecial 1, 3) := by decide +kernel
theorem dJx4a65c_init_da8c8_4 : decode cJx4a65c_init_da8c8 4 = .ok (.aload_n 0, 1) := by decide +kernel
theorem dJx4a65c_init_da8c8_5 : decode cJx4a65c_init_da8c8 5 = .ok (.getstatic 39, 3) := by decide +kernel
theorem dJx4a65c_init_da8c8_8 : decode cJx4a65c_init_da8c8 8 = .ok (.putfield 9, 3) := by decide +kernel
theorem dJx4a65c_init_da8c8_11 : decode cJx4a65c_init_da8c8 11 = .ok (.return_, 1) := by decide +kernel
theorem dJx4a65c_grow_92f84_0 : decode cJx4a65c_grow_92f84 0 = .ok (.aload_n 0, 1) := by decide +kernel
theorem dJx4a65c_grow_92f84_1 : decode cJx4a65c_grow_92f84 1 = .ok (.getfield 9, 3) := by decide +kernel
theorem dJx4a65c_grow_92f84_4 : decode cJx4a65c_grow_92f84 4 = .ok (.arraylength, 1) := by decide +kernel
theorem dJx4a65c_grow_92f84_5 : decode cJx4a65c_grow_92f84 5 = .ok (.istore_n 2, 1) := by decide +kernel
theorem dJx4a65c_grow_92f84_6 : decode cJx4a65c_grow_92f84 6 = .ok (.iload_n 2, 1) := by decide +kernel
theorem dJx4a65c_grow_92f84_7 : decode cJx4a65c_grow_92f84 7 = .ok (.ifCond .gt 13, 3) := by decide +kernel
theorem dJx4a65c_grow_92f84_10 : decode cJx4a65c_grow_92f84 10 = .ok (.aload_n 0, 1) := by decide +kernel
theorem dJx4a65c_grow_92f84_11 : decode cJx4a65c_grow_92f84 11 = .ok (.getfield 9, 3) := by decide +kernel
theorem dJx4a65c_grow_92f84_14 : decode cJx4a65c_grow_92f84 14 = .ok (.getstatic 39, 3) := by decide +kernel
theorem dJx4a65c_grow_92f84_17 : decode cJx4a65c_grow_92f84 17 = .ok (.if_acmp .eq 28, 3) := by decide +kernel
theorem dJx4a65c_grow_92f84_45 : decode cJx4a65c_grow_92f84 45 = .ok (.aload_n 0, 1) := by decide +kernel
theorem dJx4a65c_grow_92f84_46 : decode cJx4a65c_grow_92f84 46 = .ok (.bipush 10, 2) := by decide +kernel
theorem dJx4a65c_grow_92f84_48 : decode cJx4a65c_grow_92f84 48 = .ok (.iload_n 1, 1) := by decide +kernel
theorem dJx4a65c_grow_92f84_49 : decode cJx4a65c_grow_92f84 49 = .ok (.invokestatic 79, 3) := by decide +kernel
theorem dJx4a65c_grow_92f84_52 : decode cJx4a65c_grow_92f84 52 = .ok (.anewarray 7, 3) := by decide +kernel
theorem dJx4a65c_grow_92f84_55 : decode cJx4a65c_grow_92f84 55 = .ok (.dup_x1, 1) := by decide +kernel
theorem dJx4a65c_grow_92f84_56 : decode cJx4a65c_grow_92f84 56 = .ok (.putfield 9, 3) := by decide +kernel
theorem dJx4a65c_grow_92f84_59 : decode cJx4a65c_grow_92f84 59 = .ok (.areturn, 1) := by decide +kernel
set_option maxRecDepth 20000 in
theorem ggJx4a65c_grow_d5877_Jx4a65c_grow_92f84 : GoodIn wsJx4a65c_grow_d5877 wsJx4a65c_grow_92f84 := goodIn_r _ [6, 7, 8, 9, 10, 11, 12, 13, 14, 15, 16, 17, 18, 19, 20, 21, 22, 23, 24, 25, 26, 27, 28, 29, 30, 31, 32, 33, 34, 35, 36, 37, 38, 39, 40, 41, 42, 43, 44, 45] (by decide +kernel) (by decide +kernel)
set_option maxRecDepth 20000 in
theorem gJx4a65c_grow_d5877_Jx4a65c_grow_92f84 : GoodIn wsJx4a65c_grow_d5877 (wsV RJx4a65c 69 RJx4a65c yJx4a65c_grow_92f84 wsJx4a65c_grow_92f84) := goodIn_app (goodIn_of _ (by decide +kernel)) ggJx4a65c_grow_d5877_Jx4a65c_grow_92f84
theorem dJx4a65c_grow_d5877_0 : decode cJx4a65c_grow_d5877 0 = .ok (.aload_n 0, 1) := by decide +kernel
theorem dJx4a65c_grow_d5877_1 : decode cJx4a65c_grow_d5877 1 = .ok (.aload_n 0, 1) := by decide +kernel
theorem dJx4a65c_grow_d5877_2 : decode cJx4a65c_grow_d5877 2 = .ok (.getfield 48, 3) := by decide +kernel
theorem dJx4a65c_grow_d5877_5 : decode cJx4a65c_grow_d5877 5 = .ok (.iconst 1, 1) := by decide +kernel
theorem dJx4a65c_grow_d5877_6 : decode cJx4a65c_grow_d5877 6 = .ok (.iadd, 1) := by decide +kernel
theorem dJx4a65c_grow_d5877_7 : decode cJx4a65c_grow_d5877 7 = .ok (.invokevirtual 69, 3) := by decide +kernel
theorem dJx4a65c_grow_d5877_10 : decode cJx4a65c_grow_d5877 10 = .ok (.areturn, 1) := by decide +kernel
theorem dJx4a65c_size_8abf5_0 : decode cJx4a65c_size_8abf5 0 = .ok (.aload_n 0, 1) := by decide +kernel
theorem dJx4a65c_size_8abf5_1 : decode cJx4a65c_size_8abf5 1 = .ok (.getfield 48, 3) := by decide +kernel
theorem dJx4a65c_size_8abf5_4 : decode cJx4a65c_size_8abf5 4 = .ok (.ireturn, 1) := by decide +kernel
theorem dJx4a65c_isEmpty_aae02_0 : decode cJx4a65c_isEmpty_aae02 0 = .ok (.aload_n 0, 1) := by decide +kernel
theorem dJx4a65c_isEmpty_aae02_1 : decode cJx4a65c_isEmpty_aae02 1 = .ok (.getfield 48, 3) := by decide +kernel
theorem dJx4a65c_isEmpty_aae02_4 : decode cJx4a65c_isEmpty_aae02 4 = .ok (.ifCond .ne 7, 3) := by decide +kernel
theorem dJx4a65c_isEmpty_aae02_7 : decode cJx4a65c_isEmpty_aae02 7 = .ok (.iconst 1, 1) := by decide +kernel
theorem dJx4a65c_isEmpty_aae02_8 : decode cJx4a65c_isEmpty_aae02 8 = .ok (.goto 4, 3) := by decide +kernel
theorem dJx4a65c_isEmpty_aae02_12 : decode cJx4a65c_isEmpty_aae02 12 = .ok (.ireturn, 1) := by decide +kernel
set_option maxRecDepth 20000 in
theorem ggJx4a65c_toArray_d5877_J7_copyOf_1904c : GoodIn wsJx4a65c_toArray_d5877 wsJ7_copyOf_1904c := goodIn_r _ [6, 7, 8, 9, 10, 11, 12, 5, 13, 14, 15, 16, 17, 18, 19, 20, 21, 22, 23] (by decide +kernel) (by decide +kernel)
set_option maxRecDepth 20000 in
theorem gJx4a65c_toArray_d5877_J7_copyOf_1904c : GoodIn wsJx4a65c_toArray_d5877 (va_wsS RJx4a65c 66 yJ7_copyOf_1904c wsJ7_copyOf_1904c) := goodIn_app (goodIn_of _ (by decide +kernel)) ggJx4a65c_toArray_d5877_J7_copyOf_1904c
theorem dJx4a65c_toArray_d5877_0 : decode cJx4a65c_toArray_d5877 0 = .ok (.aload_n 0, 1) := by decide +kernel
theorem dJx4a65c_toArray_d5877_1 : decode cJx4a65c_toArray_d5877 1 = .ok (.getfield 9, 3) := by decide +kernel
theorem dJx4a65c_toArray_d5877_4 : decode cJx4a65c_toArray_d5877 4 = .ok (.aload_n 0, 1) := by decide +kernel
theorem dJx4a65c_toArray_d5877_5 : decode cJx4a65c_toArray_d5877 5 = .ok (.getfield 48, 3) := by decide +kernel
theorem dJx4a65c_toArray_d5877_8 : decode cJx4a65c_toArray_d5877 8 = .ok (.invokestatic 66, 3) := by decide +kernel
theorem dJx4a65c_toArray_d5877_11 : decode cJx4a65c_toArray_d5877 11 = .ok (.areturn, 1) := by decide +kernel
set_option maxRecDepth 20000 in
theorem ggJx4a65c_add_72be8_Jx4a65c_grow_d5877 : GoodIn wsJx4a65c_add_72be8 wsJx4a65c_grow_d5877 := goodIn_r _ [6, 1, 7, 8, 9, 5, 10, 11, 12, 13, 14, 15, 16, 17, 18, 19, 20, 21, 22, 23, 24, 25, 26, 27, 28, 29, 30, 31, 32, 33, 34, 35, 36, 37, 38, 39, 40, 41, 42, 43, 44, 45, 46, 47, 48, 49] (by decide +kernel) (by decide +kernel)
set_option maxRecDepth 20000 in
theorem gJx4a65c_add_72be8_Jx4a65c_grow_d5877 : GoodIn wsJx4a65c_add_72be8 (wsV RJx4a65c 129 RJx4a65c yJx4a65c_grow_d5877 wsJx4a65c_grow_d5877) := goodIn_app (goodIn_of _ (by decide +kernel)) ggJx4a65c_add_72be8_Jx4a65c_grow_d5877
theorem dJx4a65c_add_72be8_0 : decode cJx4a65c_add_72be8 0 = .ok (.iload_n 3, 1) := by decide +kernel
theorem dJx4a65c_add_72be8_1 : decode cJx4a65c_add_72be8 1 = .ok (.aload_n 2, 1) := by decide +kernel
theorem dJx4a65c_add_72be8_2 : decode cJx4a65c_add_72be8 2 = .ok (.arraylength, 1) := by decide +kernel
theorem dJx4a65c_add_72be8_3 : decode cJx4a65c_add_72be8 3 = .ok (.if_icmp .ne 8, 3) := by decide +kernel
theorem dJx4a65c_add_72be8_6 : decode cJx4a65c_add_72be8 6 = .ok (.aload_n 0, 1) := by decide +kernel
theorem dJx4a65c_add_72be8_7 : decode cJx4a65c_add_72be8 7 = .ok (.invokevirtual 129, 3) := by decide +kernel
theorem dJx4a65c_add_72be8_10 : decode cJx4a65c_add_72be8 10 = .ok (.astore_n 2, 1) := by decide +kernel
theorem dJx4a65c_add_72be8_11 : decode cJx4a65c_add_72be8 11 = .ok (.aload_n 2, 1) := by decide +kernel
theorem dJx4a65c_add_72be8_12 : decode cJx4a65c_add_72be8 12 = .ok (.iload_n 3, 1) := by decide +kernel
theorem dJx4a65c_add_72be8_13 : decode cJx4a65c_add_72be8 13 = .ok (.aload_n 1, 1) := by decide +kernel
theorem dJx4a65c_add_72be8_14 : decode cJx4a65c_add_72be8 14 = .ok (.aastore, 1) := by decide +kernel
theorem dJx4a65c_add_72be8_15 : decode cJx4a65c_add_72be8 15 = .ok (.aload_n 0, 1) := by decide +kernel
theorem dJx4a65c_add_72be8_16 : decode cJx4a65c_add_72be8 16 = .ok (.iload_n 3, 1) := by decide +kernel
theorem dJx4a65c_add_72be8_17 : decode cJx4a65c_add_72be8 17 = .ok (.iconst 1, 1) := by decide +kernel
theorem dJx4a65c_add_72be8_18 : decode cJx4a65c_add_72be8 18 = .ok (.iadd, 1) := by decide +kernel
theorem dJx4a65c_add_72be8_19 : decode cJx4a65c_add_72be8 19 = .ok (.putfield 48, 3) := by decide +kernel
theorem dJx4a65c_add_72be8_22 : decode cJx4a65c_add_72be8 22 = .ok (.return_, 1) := by decide +kernel
set_option maxRecDepth 20000 in
theorem ggJx4a65c_add_9ea2d_Jx4a65c_add_72be8 : GoodIn wsJx4a65c_add_9ea2d wsJx4a65c_add_72be8 := goodIn_r _ [9, 4, 10, 11, 12, 8, 13, 14, 15, 16, 17, 3, 18, 19, 20, 21, 22, 23, 24, 25, 26, 27, 28, 29, 30, 31, 32, 33, 34, 35, 36, 37, 38, 39, 40, 41, 42, 43, 44, 45, 46, 47, 48, 49, 50, 51, 52, 53, 54, 55] (by decide +kernel) (by decide +kernel)
set_option maxRecDepth 20000 in
theorem gJx4a65c_add_9ea2d_Jx4a65c_add_72be8 : GoodIn wsJx4a65c_add_9ea2d (wsV RJx4a65c 131 RJx4a65c yJx4a65c_add_72be8 wsJx4a65c_add_72be8) := goodIn_app (goodIn_of _ (by decide +kernel)) ggJx4a65c_add_9ea2d_Jx4a65c_add_72be8
theorem dJx4a65c_add_9ea2d_0 : decode cJx4a65c_add_9ea2d 0 = .ok (.aload_n 0, 1) := by decide +kernel
theorem dJx4a65c_add_9ea2d_1 : decode cJx4a65c_add_9ea2d 1 = .ok (.dup, 1) := by decide +kernel
theorem dJx4a65c_add_9ea2d_2 : decode cJx4a65c_add_9ea2d 2 = .ok (.getfield 63, 3) := by decide +kernel
theorem dJx4a65c_add_9ea2d_5 : decode cJx4a65c_add_9ea2d 5 = .ok (.iconst 1, 1) := by decide +kernel
theorem dJx4a65c_add_9ea2d_6 : decode cJx4a65c_add_9ea2d 6 = .ok (.iadd, 1) := by decide +kernel
theorem dJx4a65c_add_9ea2d_7 : decode cJx4a65c_add_9ea2d 7 = .ok (.putfield 63, 3) := by decide +kernel
theorem dJx4a65c_add_9ea2d_10 : decode cJx4a65c_add_9ea2d 10 = .ok (.aload_n 0, 1) := by decide +kernel
theorem dJx4a65c_add_9ea2d_11 : decode cJx4a65c_add_9ea2d 11 = .ok (.aload_n 1, 1) := by decide +kernel
theorem dJx4a65c_add_9ea2d_12 : decode cJx4a65c_add_9ea2d 12 = .ok (.aload_n 0, 1) := by decide +kernel
theorem dJx4a65c_add_9ea2d_13 : decode cJx4a65c_add_9ea2d 13 = .ok (.getfield 9, 3) := by decide +kernel
theorem dJx4a65c_add_9ea2d_16 : decode cJx4a65c_add_9ea2d 16 = .ok (.aload_n 0, 1) := by decide +kernel
theorem dJx4a65c_add_9ea2d_17 : decode cJx4a65c_add_9ea2d 17 = .ok (.getfield 48, 3) := by decide +kernel
theorem dJx4a65c_add_9ea2d_20 : decode cJx4a65c_add_9ea2d 20 = .ok (.invokevirtual 131, 3) := by decide +kernel
theorem dJx4a65c_add_9ea2d_23 : decode cJx4a65c_add_9ea2d 23 = .ok (.iconst 1, 1) := by decide +kernel
theorem dJx4a65c_add_9ea2d_24 : decode cJx4a65c_add_9ea2d 24 = .ok (.ireturn, 1) := by decide +kernel
set_option maxRecDepth 20000 in
theorem ggJx4a65c_addAll_f0b43_Jx4a65c_toArray_d5877 : GoodIn wsJx4a65c_addAll_f0b43 wsJx4a65c_toArray_d5877 := goodIn_r _ [13, 3, 4, 14, 15, 16, 17, 18, 19, 20, 21, 22, 23, 24, 25, 26, 27, 28, 29, 30, 31, 6, 7, 8, 50, 51, 52] (by decide +kernel) (by decide +kernel)
set_option maxRecDepth 20000 in
theorem gJx4a65c_addAll_f0b43_Jx4a65c_toArray_d5877_f42Jx4a65c : GoodIn wsJx4a65c_addAll_f0b43 (va_wsF RJx4a65c 42 RJx4a65c ⟨"java/util/Collection", "toArray", "()[Ljava/lang/Object;"⟩ yJx4a65c_toArray_d5877 wsJx4a65c_toArray_d5877) := goodIn_app (goodIn_of _ (by decide +kernel)) ggJx4a65c_addAll_f0b43_Jx4a65c_toArray_d5877
theorem dJx4a65c_addAll_f0b43_0 : decode cJx4a65c_addAll_f0b43 0 = .ok (.aload_n 1, 1) := by decide +kernel
theorem dJx4a65c_addAll_f0b43_1 : decode cJx4a65c_addAll_f0b43 1 = .ok (.invokeinterface 42 1, 5) := by decide +kernel
theorem dJx4a65c_addAll_f0b43_6 : decode cJx4a65c_addAll_f0b43 6 = .ok (.astore_n 2, 1) := by decide +kernel
theorem dJx4a65c_addAll_f0b43_7 : decode cJx4a65c_addAll_f0b43 7 = .ok (.aload_n 0, 1) := by decide +kernel
theorem dJx4a65c_addAll_f0b43_8 : decode cJx4a65c_addAll_f0b43 8 = .ok (.dup, 1) := by decide +kernel
theorem dJx4a65c_addAll_f0b43_9 : decode cJx4a65c_addAll_f0b43 9 = .ok (.getfield 63, 3) := by decide +kernel
theorem dJx4a65c_addAll_f0b43_12 : decode cJx4a65c_addAll_f0b43 12 = .ok (.iconst 1, 1) := by decide +kernel
theorem dJx4a65c_addAll_f0b43_13 : decode cJx4a65c_addAll_f0b43 13 = .ok (.iadd, 1) := by decide +kernel
theorem dJx4a65c_addAll_f0b43_14 : decode cJx4a65c_addAll_f0b43 14 = .ok (.putfield 63, 3) := by decide +kernel
theorem dJx4a65c_addAll_f0b43_17 : decode cJx4a65c_addAll_f0b43 17 = .ok (.aload_n 2, 1) := by decide +kernel
theorem dJx4a65c_addAll_f0b43_18 : decode cJx4a65c_addAll_f0b43 18 = .ok (.arraylength, 1) := by decide +kernel
theorem dJx4a65c_addAll_f0b43_19 : decode cJx4a65c_addAll_f0b43 19 = .ok (.istore_n 3, 1) := by decide +kernel
theorem dJx4a65c_addAll_f0b43_20 : decode cJx4a65c_addAll_f0b43 20 = .ok (.iload_n 3, 1) := by decide +kernel
theorem dJx4a65c_addAll_f0b43_21 : decode cJx4a65c_addAll_f0b43 21 = .ok (.ifCond .ne 5, 3) := by decide +kernel
theorem dJx4a65c_addAll_f0b43_24 : decode cJx4a65c_addAll_f0b43 24 = .ok (.iconst 0, 1) := by decide +kernel
theorem dJx4a65c_addAll_f0b43_25 : decode cJx4a65c_addAll_f0b43 25 = .ok (.ireturn, 1) := by decide +kernel
set_option maxRecDepth 20000 in
theorem ggJx4a65c_iterator_32c93_Jx35411_init_45d68 : GoodIn wsJx4a65c_iterator_32c93 wsJx35411_init_45d68 := goodIn_r _ [6, 7, 8, 9, 10, 11, 12, 13, 14, 15, 16, 17, 18, 19, 20, 21] (by decide +kernel) (by decide +kernel)
set_option maxRecDepth 20000 in
theorem gJx4a65c_iterator_32c93_Jx35411_init_45d68 : GoodIn wsJx4a65c_iterator_32c93 (wsJx35411_init_45d68) := ggJx4a65c_iterator_32c93_Jx35411_init_45d68
theorem dJx4a65c_iterator_32c93_0 : decode cJx4a65c_iterator_32c93 0 = .ok (.new 267, 3) := by decide +kernel
theorem dJx4a65c_iterator_32c93_3 : decode cJx4a65c_iterator_32c93 3 = .ok (.dup, 1) := by decide +kernel
theorem dJx4a65c_iterator_32c93_4 : decode cJx4a65c_iterator_32c93 4 = .ok (.aload_n 0, 1) := by decide +kernel
theorem dJx4a65c_iterator_32c93_5 : decode cJx4a65c_iterator_32c93 5 = .ok (.invokespecial 269, 3) := by decide +kernel
theorem dJx4a65c_iterator_32c93_8 : decode cJx4a65c_iterator_32c93 8 = .ok (.areturn, 1) := by decide +kernel
set_option maxRecDepth 20000 in
theorem ggJ7_copyOf_1904c_J7_copyOf_6403c : GoodIn wsJ7_copyOf_1904c wsJ7_copyOf_6403c := goodIn_r _ [8, 9, 10, 11, 12, 13, 14, 15, 16, 17, 18] (by decide +kernel) (by decide +kernel)
set_option maxRecDepth 20000 in
theorem gJ7_copyOf_1904c_J7_copyOf_6403c : GoodIn wsJ7_copyOf_1904c (va_wsS RJ7 300 yJ7_copyOf_6403c wsJ7_copyOf_6403c) := goodIn_app (goodIn_of _ (by decide +kernel)) ggJ7_copyOf_1904c_J7_copyOf_6403c
theorem dJ7_copyOf_1904c_0 : decode cJ7_copyOf_1904c 0 = .ok (.aload_n 0, 1) := by decide +kernel
theorem dJ7_copyOf_1904c_1 : decode cJ7_copyOf_1904c 1 = .ok (.iload_n 1, 1) := by decide +kernel
theorem dJ7_copyOf_1904c_2 : decode cJ7_copyOf_1904c 2 = .ok (.aload_n 0, 1) := by decide +kernel
theorem dJ7_copyOf_1904c_3 : decode cJ7_copyOf_1904c 3 = .ok (.invokevirtual 86, 3) := by decide +kernel
theorem dJ7_copyOf_1904c_6 : decode cJ7_copyOf_1904c 6 = .ok (.invokestatic 300, 3) := by decide +kernel
theorem dJ7_copyOf_1904c_9 : decode cJ7_copyOf_1904c 9 = .ok (.areturn, 1) := by decide +kernel
theorem dJ7_copyOf_6403c_0 : decode cJ7_copyOf_6403c 0 = .ok (.aload_n 2, 1) := by decide +kernel
theorem dJ7_copyOf_6403c_1 : decode cJ7_copyOf_6403c 1 = .ok (.ldc 110, 2) := by decide +kernel
theorem dJ7_copyOf_6403c_3 : decode cJ7_copyOf_6403c 3 = .ok (.if_acmp .ne 10, 3) := by decide +kernel
theorem dJ7_copyOf_6403c_6 : decode cJ7_copyOf_6403c 6 = .ok (.iload_n 1, 1) := by decide +kernel
theorem dJ7_copyOf_6403c_7 : decode cJ7_copyOf_6403c 7 = .ok (.anewarray 2, 3) := by decide +kernel
theorem dJ7_copyOf_6403c_10 : decode cJ7_copyOf_6403c 10 = .ok (.goto 14, 3) := by decide +kernel
theorem dJ7_copyOf_6403c_24 : decode cJ7_copyOf_6403c 24 = .ok (.astore_n 3, 1) := by decide +kernel
theorem dJ7_copyOf_6403c_25 : decode cJ7_copyOf_6403c 25 = .ok (.aload_n 0, 1) := by decide +kernel
theorem dJ7_copyOf_6403c_26 : decode cJ7_copyOf_6403c 26 = .ok (.iconst 0, 1) := by decide +kernel
theorem dJ7_copyOf_6403c_27 : decode cJ7_copyOf_6403c 27 = .ok (.aload_n 3, 1) := by decide +kernel
theorem dJ7_copyOf_6403c_28 : decode cJ7_copyOf_6403c 28 = .ok (.iconst 0, 1) := by decide +kernel
theorem dJ7_copyOf_6403c_29 : decode cJ7_copyOf_6403c 29 = .ok (.aload_n 0, 1) := by decide +kernel
theorem dJ7_copyOf_6403c_30 : decode cJ7_copyOf_6403c 30 = .ok (.arraylength, 1) := by decide +kernel
theorem dJ7_copyOf_6403c_31 : decode cJ7_copyOf_6403c 31 = .ok (.iload_n 1, 1) := by decide +kernel
theorem dJ7_copyOf_6403c_32 : decode cJ7_copyOf_6403c 32 = .ok (.invokestatic 304, 3) := by decide +kernel
theorem dJ7_copyOf_6403c_35 : decode cJ7_copyOf_6403c 35 = .ok (.invokestatic 150, 3) := by decide +kernel
theorem dJ7_copyOf_6403c_38 : decode cJ7_copyOf_6403c 38 = .ok (.aload_n 3, 1) := by decide +kernel
theorem dJ7_copyOf_6403c_39 : decode cJ7_copyOf_6403c 39 = .ok (.areturn, 1) := by decide +kernel
set_option maxRecDepth 20000 in
theorem ggL_addRoom_X8_addRoom : GoodIn wsL_addRoom wsX8_addRoom := goodIn_ca (goodIn_ca (goodIn_ca (goodIn_r _ [7, 8, 9, 10, 11, 12, 13, 14, 6, 15, 16, 17, 18, 19, 20, 21, 22, 23, 24, 25, 26, 27, 28, 29, 30, 31, 32, 33, 34, 35, 36, 37, 38, 39, 40, 41, 42, 43, 44, 45, 46, 47, 48, 49] (by decide +kernel) (by decide +kernel)) (goodIn_sub (fun _ h => List.mem_cons_of_mem _ (List.mem_append_left _ (List.mem_append_right _ h))) (by decide +kernel))) (goodIn_sub (fun _ h => List.mem_cons_of_mem _ (List.mem_append_right _ h)) (by decide +kernel))) (goodIn_sub (fun _ h => List.mem_cons_of_mem _ (List.mem_append_left _ (List.mem_append_left _ (List.mem_append_right _ h)))) (by decide +kernel))
set_option maxRecDepth 20000 in
theorem gL_addRoom_X8_addRoom : GoodIn wsL_addRoom (wsV RL 7 RX8 yX8_addRoom wsX8_addRoom) := goodIn_app (goodIn_of _ (by decide +kernel)) ggL_addRoom_X8_addRoom
theorem dL_addRoom_0 : decode cL_addRoom 0 = .ok (.aload_n 2, 1) := by decide +kernel
theorem dL_addRoom_1 : decode cL_addRoom 1 = .ok (.iconst 0, 1) := by decide +kernel
theorem dL_addRoom_2 : decode cL_addRoom 2 = .ok (.aload_n 0, 1) := by decide +kernel
theorem dL_addRoom_3 : decode cL_addRoom 3 = .ok (.iload_n 1, 1) := by decide +kernel
theorem dL_addRoom_4 : decode cL_addRoom 4 = .ok (.invokevirtual 7, 3) := by decide +kernel
theorem dL_addRoom_7 : decode cL_addRoom 7 = .ok (.i2l, 1) := by decide +kernel
theorem dL_addRoom_8 : decode cL_addRoom 8 = .ok (.lastore, 1) := by decide +kernel
theorem dL_addRoom_9 : decode cL_addRoom 9 = .ok (.goto 9, 3) := by decide +kernel
theorem dL_addRoom_12 : decode cL_addRoom 12 = .ok (.astore_n 3, 1) := by decide +kernel
theorem dL_addRoom_13 : decode cL_addRoom 13 = .ok (.iconst 1, 1) := by decide +kernel
theorem dL_addRoom_14 : decode cL_addRoom 14 = .ok (.ireturn, 1) := by decide +kernel
theorem dL_addRoom_18 : decode cL_addRoom 18 = .ok (.iconst 0, 1) := by decide +kernel
theorem dL_addRoom_19 : decode cL_addRoom 19 = .ok (.ireturn, 1) := by decide +kernel
set_option maxRecDepth 20000 in
theorem ggL_addHatch_X8_addHatch : GoodIn wsL_addHatch wsX8_addHatch := goodIn_ca (goodIn_ca (goodIn_ca (goodIn_ca (goodIn_r _ [8, 9, 10, 11, 12, 13, 14, 15, 16, 17, 7, 18, 19, 20, 21, 22, 23, 24, 25, 26, 27, 28, 29, 30, 31, 32, 33, 34, 35, 36, 37, 38, 39, 40, 41, 42, 43, 44, 45, 46, 47, 48, 49, 50, 51, 52, 53, 54, 55, 56, 57, 58, 59, 60, 61, 62, 63] (by decide +kernel) (by decide +kernel)) (goodIn_sub (fun _ h => List.mem_cons_of_mem _ (List.mem_append_left _ (List.mem_append_left _ (List.mem_append_right _ h)))) (by decide +kernel))) (goodIn_sub (fun _ h => List.mem_cons_of_mem _ (List.mem_append_left _ (List.mem_append_right _ h))) (by decide +kernel))) (goodIn_sub (fun _ h => List.mem_cons_of_mem _ (List.mem_append_right _ h)) (by decide +kernel))) (goodIn_sub (fun _ h => List.mem_cons_of_mem _ (List.mem_append_left _ (List.mem_append_left _ (List.mem_append_left _ (List.mem_append_right _ h))))) (by decide +kernel))
set_option maxRecDepth 20000 in
theorem gL_addHatch_X8_addHatch : GoodIn wsL_addHatch (wsV RL 17 RX8 yX8_addHatch wsX8_addHatch) := goodIn_app (goodIn_of _ (by decide +kernel)) ggL_addHatch_X8_addHatch
theorem dL_addHatch_0 : decode cL_addHatch 0 = .ok (.aload_n 3, 1) := by decide +kernel
theorem dL_addHatch_1 : decode cL_addHatch 1 = .ok (.iconst 0, 1) := by decide +kernel
theorem dL_addHatch_2 : decode cL_addHatch 2 = .ok (.aload_n 0, 1) := by decide +kernel
theorem dL_addHatch_3 : decode cL_addHatch 3 = .ok (.iload_n 1, 1) := by decide +kernel
theorem dL_addHatch_4 : decode cL_addHatch 4 = .ok (.iload_n 2, 1) := by decide +kernel
theorem dL_addHatch_5 : decode cL_addHatch 5 = .ok (.invokevirtual 17, 3) := by decide +kernel
theorem dL_addHatch_13 : decode cL_addHatch 13 = .ok (.astore 4, 2) := by decide +kernel
theorem dL_addHatch_15 : decode cL_addHatch 15 = .ok (.iconst 1, 1) := by decide +kernel
theorem dL_addHatch_16 : decode cL_addHatch 16 = .ok (.ireturn, 1) := by decide +kernel
set_option maxRecDepth 20000 in
theorem ggL_setHatch_X8_setHatch : GoodIn wsL_setHatch wsX8_setHatch := goodIn_ca (goodIn_ca (goodIn_r _ [6, 7, 8, 9, 10, 11, 12, 5, 13, 14, 15, 16, 17, 18, 19, 20, 21, 22, 23, 24, 25, 26, 27, 28, 29, 30, 31, 32, 33, 34, 35] (by decide +kernel) (by decide +kernel)) (goodIn_sub (fun _ h => List.mem_cons_of_mem _ (List.mem_append_left _ (List.mem_append_right _ h))) (by decide +kernel))) (goodIn_sub (fun _ h => List.mem_cons_of_mem _ (List.mem_append_right _ h)) (by decide +kernel))
set_option maxRecDepth 20000 in
theorem gL_setHatch_X8_setHatch : GoodIn wsL_setHatch (wsV RL 23 RX8 yX8_setHatch wsX8_setHatch) := goodIn_app (goodIn_of _ (by decide +kernel)) ggL_setHatch_X8_setHatch
theorem dL_setHatch_0 : decode cL_setHatch 0 = .ok (.aload_n 3, 1) := by decide +kernel
theorem dL_setHatch_1 : decode cL_setHatch 1 = .ok (.iconst 0, 1) := by decide +kernel
theorem dL_setHatch_2 : decode cL_setHatch 2 = .ok (.aload_n 0, 1) := by decide +kernel
theorem dL_setHatch_3 : decode cL_setHatch 3 = .ok (.iload_n 1, 1) := by decide +kernel
theorem dL_setHatch_4 : decode cL_setHatch 4 = .ok (.iload_n 2, 1) := by decide +kernel
theorem dL_setHatch_5 : decode cL_setHatch 5 = .ok (.invokevirtual 23, 3) := by decide +kernel
theorem dL_setHatch_20 : decode cL_setHatch 20 = .ok (.astore 4, 2) := by decide +kernel
theorem dL_setHatch_22 : decode cL_setHatch 22 = .ok (.iconst 1, 1) := by decide +kernel
theorem dL_setHatch_23 : decode cL_setHatch 23 = .ok (.ireturn, 1) := by decide +kernel
set_option maxRecDepth 20000 in
theorem ggL_setLeak_X8_setLeak : GoodIn wsL_setLeak wsX8_setLeak := goodIn_ca (goodIn_ca (goodIn_ca (goodIn_r _ [7, 8, 9, 10, 11, 12, 13, 6, 14, 15, 16, 17, 18, 19, 20, 21, 22, 23, 24, 25, 26, 27, 28, 29, 30, 31, 32, 33, 34, 35, 36, 37, 38, 39, 40, 41, 42, 43, 44, 45, 46] (by decide +kernel) (by decide +kernel)) (goodIn_sub (fun _ h => List.mem_cons_of_mem _ (List.mem_append_left _ (List.mem_append_left _ (List.mem_append_right _ h)))) (by decide +kernel))) (goodIn_sub (fun _ h => List.mem_cons_of_mem _ (List.mem_append_left _ (List.mem_append_right _ h))) (by decide +kernel))) (goodIn_sub (fun _ h => List.mem_cons_of_mem _ (List.mem_append_right _ h)) (by decide +kernel))
set_option maxRecDepth 20000 in
theorem gL_setLeak_X8_setLeak : GoodIn wsL_setLeak (wsV RL 27 RX8 yX8_setLeak wsX8_setLeak) := goodIn_app (goodIn_of _ (by decide +kernel)) ggL_setLeak_X8_setLeak
theorem dL_setLeak_0 : decode cL_setLeak 0 = .ok (.aload_n 3, 1) := by decide +kernel
theorem dL_setLeak_1 : decode cL_setLeak 1 = .ok (.iconst 0, 1) := by decide +kernel
theorem dL_setLeak_2 : decode cL_setLeak 2 = .ok (.aload_n 0, 1) := by decide +kernel
theorem dL_setLeak_3 : decode cL_setLeak 3 = .ok (.iload_n 1, 1) := by decide +kernel
theorem dL_setLeak_4 : decode cL_setLeak 4 = .ok (.iload_n 2, 1) := by decide +kernel
theorem dL_setLeak_5 : decode cL_setLeak 5 = .ok (.invokevirtual 27, 3) := by decide +kernel
theorem dL_setLeak_13 : decode cL_setLeak 13 = .ok (.astore 4, 2) := by decide +kernel
theorem dL_setLeak_15 : decode cL_setLeak 15 = .ok (.iconst 1, 1) := by decide +kernel
theorem dL_setLeak_16 : decode cL_setLeak 16 = .ok (.ireturn, 1) := by decide +kernel
set_option maxRecDepth 20000 in
theorem ggL_addDevice_X8_addDevice : GoodIn wsL_addDevice wsX8_addDevice := goodIn_ca (goodIn_ca (goodIn_ca (goodIn_ca (goodIn_r _ [8, 9, 10, 11, 12, 13, 14, 15, 16, 17, 7, 18, 19, 20, 21, 22, 23, 24, 25, 26, 27, 28, 29, 30, 31, 32, 33, 34, 35, 36, 37, 38, 39, 40, 41, 42, 43, 44, 45, 46, 47, 48, 49, 50, 51, 52, 53, 54, 55, 56, 57, 58, 59, 60, 61, 62, 63] (by decide +kernel) (by decide +kernel)) (goodIn_sub (fun _ h => List.mem_cons_of_mem _ (List.mem_append_left _ (List.mem_append_left _ (List.mem_append_right _ h)))) (by decide +kernel))) (goodIn_sub (fun _ h => List.mem_cons_of_mem _ (List.mem_append_left _ (List.mem_append_right _ h))) (by decide +kernel))) (goodIn_sub (fun _ h => List.mem_cons_of_mem _ (List.mem_append_right _ h)) (by decide +kernel))) (goodIn_sub (fun _ h => List.mem_cons_of_mem _ (List.mem_append_left _ (List.mem_append_left _ (List.mem_append_left _ (List.mem_append_right _ h))))) (by decide +kernel))
set_option maxRecDepth 20000 in
theorem gL_addDevice_X8_addDevice : GoodIn wsL_addDevice (wsV RL 30 RX8 yX8_addDevice wsX8_addDevice) := goodIn_app (goodIn_of _ (by decide +kernel)) ggL_addDevice_X8_addDevice
theorem dL_addDevice_0 : decode cL_addDevice 0 = .ok (.aload_n 3, 1) := by decide +kernel
theorem dL_addDevice_1 : decode cL_addDevice 1 = .ok (.iconst 0, 1) := by decide +kernel
theorem dL_addDevice_2 : decode cL_addDevice 2 = .ok (.aload_n 0, 1) := by decide +kernel
theorem dL_addDevice_3 : decode cL_addDevice 3 = .ok (.iload_n 1, 1) := by decide +kernel
theorem dL_addDevice_4 : decode cL_addDevice 4 = .ok (.iload_n 2, 1) := by decide +kernel
theorem dL_addDevice_5 : decode cL_addDevice 5 = .ok (.invokevirtual 30, 3) := by decide +kernel
theorem dL_addDevice_13 : decode cL_addDevice 13 = .ok (.astore 4, 2) := by decide +kernel
theorem dL_addDevice_15 : decode cL_addDevice 15 = .ok (.iconst 1, 1) := by decide +kernel
theorem dL_addDevice_16 : decode cL_addDevice 16 = .ok (.ireturn, 1) := by decide +kernel
theorem dL_addDevice_17 : decode cL_addDevice 17 = .ok (.astore 4, 2) := by decide +kernel
theorem dL_addDevice_19 : decode cL_addDevice 19 = .ok (.iconst 2, 1) := by decide +kernel
theorem dL_addDevice_20 : decode cL_addDevice 20 = .ok (.ireturn, 1) := by decide +kernel
set_option maxRecDepth 20000 in
theorem ggL_setDevice_X8_setDevice : GoodIn wsL_setDevice wsX8_setDevice := goodIn_ca (goodIn_ca (goodIn_ca (goodIn_r _ [7, 8, 9, 10, 11, 12, 13, 14, 15, 16, 17, 6, 18, 19, 20, 21, 22, 23, 24, 25, 26, 27, 28, 29, 30, 31, 32, 33, 34, 35, 36, 37, 38, 39, 40, 41] (by decide +kernel) (by decide +kernel)) (goodIn_sub (fun _ h => List.mem_cons_of_mem _ (List.mem_append_left _ (List.mem_append_left _ (List.mem_append_right _ h)))) (by decide +kernel))) (goodIn_sub (fun _ h => List.mem_cons_of_mem _ (List.mem_append_left _ (List.mem_append_right _ h))) (by decide +kernel))) (goodIn_sub (fun _ h => List.mem_cons_of_mem _ (List.mem_append_right _ h)) (by decide +kernel))
set_option maxRecDepth 20000 in
theorem gL_setDevice_X8_setDevice : GoodIn wsL_setDevice (wsV RL 34 RX8 yX8_setDevice wsX8_setDevice) := goodIn_app (goodIn_of _ (by decide +kernel)) ggL_setDevice_X8_setDevice
theorem dL_setDevice_0 : decode cL_setDevice 0 = .ok (.aload_n 3, 1) := by decide +kernel
theorem dL_setDevice_1 : decode cL_setDevice 1 = .ok (.iconst 0, 1) := by decide +kernel
theorem dL_setDevice_2 : decode cL_setDevice 2 = .ok (.aload_n 0, 1) := by decide +kernel
theorem dL_setDevice_3 : decode cL_setDevice 3 = .ok (.iload_n 1, 1) := by decide +kernel
theorem dL_setDevice_4 : decode cL_setDevice 4 = .ok (.iload_n 2, 1) := by decide +kernel
theorem dL_setDevice_5 : decode cL_setDevice 5 = .ok (.invokevirtual 34, 3) := by decide +kernel
theorem dL_setDevice_20 : decode cL_setDevice 20 = .ok (.astore 4, 2) := by decide +kernel
theorem dL_setDevice_22 : decode cL_setDevice 22 = .ok (.iconst 1, 1) := by decide +kernel
theorem dL_setDevice_23 : decode cL_setDevice 23 = .ok (.ireturn, 1) := by decide +kernel
set_option maxRecDepth 20000 in
theorem ggL_setPanels_X8_setPanels : GoodIn wsL_setPanels wsX8_setPanels := goodIn_ca (goodIn_r _ [6, 7, 8, 9, 10, 5, 11, 12, 13, 14, 15, 16, 17, 18, 19, 20, 21, 22, 23, 24, 25, 26, 27, 28, 29] (by decide +kernel) (by decide +kernel)) (goodIn_sub (fun _ h => List.mem_cons_of_mem _ (List.mem_append_right _ h)) (by decide +kernel))
set_option maxRecDepth 20000 in
theorem gL_setPanels_X8_setPanels : GoodIn wsL_setPanels (wsV RL 39 RX8 yX8_setPanels wsX8_setPanels) := goodIn_app (goodIn_of _ (by decide +kernel)) ggL_setPanels_X8_setPanels
theorem dL_setPanels_0 : decode cL_setPanels 0 = .ok (.aload_n 2, 1) := by decide +kernel
theorem dL_setPanels_1 : decode cL_setPanels 1 = .ok (.iconst 0, 1) := by decide +kernel
theorem dL_setPanels_2 : decode cL_setPanels 2 = .ok (.aload_n 0, 1) := by decide +kernel
theorem dL_setPanels_3 : decode cL_setPanels 3 = .ok (.iload_n 1, 1) := by decide +kernel
theorem dL_setPanels_4 : decode cL_setPanels 4 = .ok (.invokevirtual 39, 3) := by decide +kernel
theorem dL_setPanels_7 : decode cL_setPanels 7 = .ok (.i2l, 1) := by decide +kernel
theorem dL_setPanels_8 : decode cL_setPanels 8 = .ok (.lastore, 1) := by decide +kernel
theorem dL_setPanels_9 : decode cL_setPanels 9 = .ok (.goto 6, 3) := by decide +kernel
theorem dL_setPanels_12 : decode cL_setPanels 12 = .ok (.astore_n 3, 1) := by decide +kernel
theorem dL_setPanels_13 : decode cL_setPanels 13 = .ok (.iconst 1, 1) := by decide +kernel
theorem dL_setPanels_14 : decode cL_setPanels 14 = .ok (.ireturn, 1) := by decide +kernel
theorem dL_setPanels_15 : decode cL_setPanels 15 = .ok (.iconst 0, 1) := by decide +kernel
theorem dL_setPanels_16 : decode cL_setPanels 16 = .ok (.ireturn, 1) := by decide +kernel
set_option maxRecDepth 20000 in
theorem ggL_board_X8_board : GoodIn wsL_board wsX8_board := goodIn_ca (goodIn_ca (goodIn_ca (goodIn_r _ [7, 8, 9, 10, 11, 12, 13, 14, 6, 15, 16, 17, 18, 19, 20, 21, 22, 23, 24, 25, 26, 27, 28, 29, 30, 31, 32, 33, 34, 35, 36, 37, 38, 39, 40, 41, 42, 43, 44, 45, 46, 47, 48, 49, 50, 51, 52, 53, 54, 55, 56, 57, 58, 59, 60, 61] (by decide +kernel) (by decide +kernel)) (goodIn_sub (fun _ h => List.mem_cons_of_mem _ (List.mem_append_left _ (List.mem_append_right _ h))) (by decide +kernel))) (goodIn_sub (fun _ h => List.mem_cons_of_mem _ (List.mem_append_right _ h)) (by decide +kernel))) (goodIn_sub (fun _ h => List.mem_cons_of_mem _ (List.mem_append_left _ (List.mem_append_left _ (List.mem_append_right _ h)))) (by decide +kernel))
set_option maxRecDepth 20000 in
theorem gL_board_X8_board : GoodIn wsL_board (wsV RL 42 RX8 yX8_board wsX8_board) := goodIn_app (goodIn_of _ (by decide +kernel)) ggL_board_X8_board
theorem dL_board_0 : decode cL_board 0 = .ok (.aload_n 2, 1) := by decide +kernel
theorem dL_board_1 : decode cL_board 1 = .ok (.iconst 0, 1) := by decide +kernel
theorem dL_board_2 : decode cL_board 2 = .ok (.aload_n 0, 1) := by decide +kernel
theorem dL_board_3 : decode cL_board 3 = .ok (.iload_n 1, 1) := by decide +kernel
theorem dL_board_4 : decode cL_board 4 = .ok (.invokevirtual 42, 3) := by decide +kernel
theorem dL_board_12 : decode cL_board 12 = .ok (.astore_n 3, 1) := by decide +kernel
theorem dL_board_13 : decode cL_board 13 = .ok (.iconst 1, 1) := by decide +kernel
theorem dL_board_14 : decode cL_board 14 = .ok (.ireturn, 1) := by decide +kernel
set_option maxRecDepth 20000 in
theorem ggL_move_X8_move_k0 : GoodIn wsL_move [.code yX8_move cX8_move 4 (some .int)] := goodIn_r _ [8] (by decide +kernel) (by decide +kernel)
set_option maxRecDepth 20000 in
theorem ggL_move_X8_move_k1 : GoodIn wsL_move wsX8_move_r1 := goodIn_r _ [9, 10, 11, 12, 13, 14, 15, 16, 17, 7, 18, 19, 20, 21, 22, 23, 24, 25, 26, 27, 28, 29, 30, 31] (by decide +kernel) (by decide +kernel)
set_option maxRecDepth 20000 in
theorem ggL_move_X8_move_k2 : GoodIn wsL_move wsX8_move_r2 := goodIn_r _ [32, 33, 34, 35, 36, 37, 38, 39, 40, 41, 42] (by decide +kernel) (by decide +kernel)
set_option maxRecDepth 20000 in
theorem ggL_move_X8_move_k3 : GoodIn wsL_move wsX80 := goodIn_r _ [43, 44] (by decide +kernel) (by decide +kernel)
set_option maxRecDepth 20000 in
theorem ggL_move_X8_move_k4 : GoodIn wsL_move wsX70 := goodIn_r _ [45, 46, 47, 48, 49, 50, 51, 52, 53, 54, 55, 56, 57, 58] (by decide +kernel) (by decide +kernel)
set_option maxRecDepth 20000 in
theorem ggL_move_X8_move_k5 : GoodIn wsL_move wsX10 := goodIn_r _ [59, 60, 61, 62, 63, 64] (by decide +kernel) (by decide +kernel)
set_option maxRecDepth 20000 in
theorem ggL_move_X8_move_k6 : GoodIn wsL_move wsX50 := goodIn_r _ [65, 66, 67, 68, 69] (by decide +kernel) (by decide +kernel)
set_option maxRecDepth 20000 in
theorem ggL_move_X8_move_k7 : GoodIn wsL_move wsX40 := goodIn_r _ [70, 71, 72, 73] (by decide +kernel) (by decide +kernel)
set_option maxRecDepth 20000 in
theorem ggL_move_X8_move : GoodIn wsL_move wsX8_move := goodIn_ca (goodIn_ca (goodIn_ca (goodIn_ca (goodIn_cons1 ggL_move_X8_move_k0 (goodIn_app (goodIn_app (goodIn_app (goodIn_app (goodIn_app (goodIn_app ggL_move_X8_move_k1 ggL_move_X8_move_k2) ggL_move_X8_move_k3) ggL_move_X8_move_k4) ggL_move_X8_move_k5) ggL_move_X8_move_k6) ggL_move_X8_move_k7)) (goodIn_sub (fun _ h => List.mem_cons_of_mem _ (List.mem_append_left _ (List.mem_append_left _ (List.mem_append_left _ (List.mem_append_right _ h))))) (by decide +kernel))) (goodIn_sub (fun _ h => List.mem_cons_of_mem _ (List.mem_append_left _ (List.mem_append_left _ (List.mem_append_right _ h)))) (by decide +kernel))) (goodIn_sub (fun _ h => List.mem_cons_of_mem _ (List.mem_append_left _ (List.mem_append_right _ h))) (by decide +kernel))) (goodIn_sub (fun _ h => List.mem_cons_of_mem _ (List.mem_append_right _ h)) (by decide +kernel))
set_option maxRecDepth 20000 in
theorem gL_move_X8_move : GoodIn wsL_move (wsV RL 45 RX8 yX8_move wsX8_move) := goodIn_app (goodIn_of _ (by decide +kernel)) ggL_move_X8_move
theorem dL_move_0 : decode cL_move 0 = .ok (.aload_n 3, 1) := by decide +kernel
theorem dL_move_1 : decode cL_move 1 = .ok (.iconst 0, 1) := by decide +kernel
theorem dL_move_2 : decode cL_move 2 = .ok (.aload_n 0, 1) := by decide +kernel
theorem dL_move_3 : decode cL_move 3 = .ok (.iload_n 1, 1) := by decide +kernel
theorem dL_move_4 : decode cL_move 4 = .ok (.iload_n 2, 1) := by decide +kernel
theorem dL_move_5 : decode cL_move 5 = .ok (.invokevirtual 45, 3) := by decide +kernel
theorem dL_move_13 : decode cL_move 13 = .ok (.astore 4, 2) := by decide +kernel
theorem dL_move_15 : decode cL_move 15 = .ok (.iconst 1, 1) := by decide +kernel
theorem dL_move_16 : decode cL_move 16 = .ok (.ireturn, 1) := by decide +kernel
set_option maxRecDepth 20000 in
theorem ggL_setTask_X8_setTask : GoodIn wsL_setTask wsX8_setTask := goodIn_ca (goodIn_ca (goodIn_ca (goodIn_ca (goodIn_ca (goodIn_r _ [9, 10, 11, 12, 13, 14, 15, 16, 17, 18, 19, 20, 8, 21, 22, 23, 24, 25, 26, 27, 28, 29, 30, 31, 32, 33, 34, 35, 36, 37, 38, 39, 40, 41, 42, 43, 44, 45, 46, 47, 48, 49, 50, 51, 52] (by decide +kernel) (by decide +kernel)) (goodIn_sub (fun _ h => List.mem_cons_of_mem _ (List.mem_append_left _ (List.mem_append_left _ (List.mem_append_left _ (List.mem_append_right _ h))))) (by decide +kernel))) (goodIn_sub (fun _ h => List.mem_cons_of_mem _ (List.mem_append_left _ (List.mem_append_left _ (List.mem_append_right _ h)))) (by decide +kernel))) (goodIn_sub (fun _ h => List.mem_cons_of_mem _ (List.mem_append_left _ (List.mem_append_left _ (List.mem_append_left _ (List.mem_append_left _ (List.mem_append_right _ h)))))) (by decide +kernel))) (goodIn_sub (fun _ h => List.mem_cons_of_mem _ (List.mem_append_left _ (List.mem_append_right _ h))) (by decide +kernel))) (goodIn_sub (fun _ h => List.mem_cons_of_mem _ (List.mem_append_right _ h)) (by decide +kernel))
set_option maxRecDepth 20000 in
theorem gL_setTask_X8_setTask : GoodIn wsL_setTask (wsV RL 48 RX8 yX8_setTask wsX8_setTask) := goodIn_app (goodIn_of _ (by decide +kernel)) ggL_setTask_X8_setTask
theorem dL_setTask_0 : decode cL_setTask 0 = .ok (.aload_n 3, 1) := by decide +kernel
theorem dL_setTask_1 : decode cL_setTask 1 = .ok (.iconst 0, 1) := by decide +kernel
theorem dL_setTask_2 : decode cL_setTask 2 = .ok (.aload_n 0, 1) := by decide +kernel
theorem dL_setTask_3 : decode cL_setTask 3 = .ok (.iload_n 1, 1) := by decide +kernel
theorem dL_setTask_4 : decode cL_setTask 4 = .ok (.iload_n 2, 1) := by decide +kernel
theorem dL_setTask_5 : decode cL_setTask 5 = .ok (.invokevirtual 48, 3) := by decide +kernel
theorem dL_setTask_13 : decode cL_setTask 13 = .ok (.astore 4, 2) := by decide +kernel
theorem dL_setTask_15 : decode cL_setTask 15 = .ok (.iconst 1, 1) := by decide +kernel
theorem dL_setTask_16 : decode cL_setTask 16 = .ok (.ireturn, 1) := by decide +kernel
set_option maxRecDepth 20000 in
theorem ggL_send_X8_send_k0 : GoodIn wsL_send [.code yX8_send cX8_send 6 (some .int)] := goodIn_r _ [9] (by decide +kernel) (by decide +kernel)
set_option maxRecDepth 20000 in
theorem ggL_send_X8_send_k1 : GoodIn wsL_send wsX8_send_r1 := goodIn_r _ [10, 11, 12, 13, 14, 15, 16, 17, 18, 19, 20, 21, 22, 23, 24, 25, 8, 26, 27, 28, 29, 30, 31, 32] (by decide +kernel) (by decide +kernel)
set_option maxRecDepth 20000 in
theorem ggL_send_X8_send_k2 : GoodIn wsL_send wsX8_send_r2 := goodIn_r _ [33, 34, 35, 36, 37, 38, 39, 40, 41, 42, 43, 44, 45] (by decide +kernel) (by decide +kernel)
set_option maxRecDepth 20000 in
theorem ggL_send_X8_send_k3 : GoodIn wsL_send wsX80 := goodIn_r _ [46, 47] (by decide +kernel) (by decide +kernel)
set_option maxRecDepth 20000 in
theorem ggL_send_X8_send_k4 : GoodIn wsL_send wsX70 := goodIn_r _ [48, 49, 50, 51, 52, 53, 54, 55, 56, 57, 58, 59, 60, 61] (by decide +kernel) (by decide +kernel)
set_option maxRecDepth 20000 in
theorem ggL_send_X8_send_k5 : GoodIn wsL_send wsX20 := goodIn_r _ [62, 63, 64, 65, 66] (by decide +kernel) (by decide +kernel)
set_option maxRecDepth 20000 in
theorem ggL_send_X8_send_k6 : GoodIn wsL_send wsX40 := goodIn_r _ [67, 68, 69, 70] (by decide +kernel) (by decide +kernel)
set_option maxRecDepth 20000 in
theorem ggL_send_X8_send_k7 : GoodIn wsL_send wsX00 := goodIn_r _ [71, 72, 73, 74, 75] (by decide +kernel) (by decide +kernel)
set_option maxRecDepth 20000 in
theorem ggL_send_X8_send : GoodIn wsL_send wsX8_send := goodIn_ca (goodIn_ca (goodIn_ca (goodIn_ca (goodIn_ca (goodIn_cons1 ggL_send_X8_send_k0 (goodIn_app (goodIn_app (goodIn_app (goodIn_app (goodIn_app (goodIn_app ggL_send_X8_send_k1 ggL_send_X8_send_k2) ggL_send_X8_send_k3) ggL_send_X8_send_k4) ggL_send_X8_send_k5) ggL_send_X8_send_k6) ggL_send_X8_send_k7)) (goodIn_sub (fun _ h => List.mem_cons_of_mem _ (List.mem_append_left _ (List.mem_append_left _ (List.mem_append_left _ (List.mem_append_right _ h))))) (by decide +kernel))) (goodIn_sub (fun _ h => List.mem_cons_of_mem _ (List.mem_append_left _ (List.mem_append_left _ (List.mem_append_right _ h)))) (by decide +kernel))) (goodIn_sub (fun _ h => List.mem_cons_of_mem _ (List.mem_append_left _ (List.mem_append_right _ h))) (by decide +kernel))) (goodIn_sub (fun _ h => List.mem_cons_of_mem _ (List.mem_append_right _ h)) (by decide +kernel))) (goodIn_sub (fun _ h => List.mem_cons_of_mem _ (List.mem_append_left _ (List.mem_append_left _ (List.mem_append_left _ (List.mem_append_left _ (List.mem_append_right _ h)))))) (by decide +kernel))
set_option maxRecDepth 20000 in
theorem gL_send_X8_send : GoodIn wsL_send (wsV RL 52 RX8 yX8_send wsX8_send) := goodIn_app (goodIn_of _ (by decide +kernel)) ggL_send_X8_send
theorem dL_send_0 : decode cL_send 0 = .ok (.aload 5, 2) := by decide +kernel
theorem dL_send_2 : decode cL_send 2 = .ok (.iconst 0, 1) := by decide +kernel
theorem dL_send_3 : decode cL_send 3 = .ok (.aload_n 0, 1) := by decide +kernel
theorem dL_send_4 : decode cL_send 4 = .ok (.iload_n 1, 1) := by decide +kernel
theorem dL_send_5 : decode cL_send 5 = .ok (.iload_n 2, 1) := by decide +kernel
theorem dL_send_6 : decode cL_send 6 = .ok (.iload_n 3, 1) := by decide +kernel
theorem dL_send_7 : decode cL_send 7 = .ok (.iload 4, 2) := by decide +kernel
theorem dL_send_9 : decode cL_send 9 = .ok (.invokevirtual 52, 3) := by decide +kernel
theorem dL_send_17 : decode cL_send 17 = .ok (.astore 6, 2) := by decide +kernel
theorem dL_send_19 : decode cL_send 19 = .ok (.iconst 1, 1) := by decide +kernel
theorem dL_send_20 : decode cL_send 20 = .ok (.ireturn, 1) := by decide +kernel
theorem dL_send_21 : decode cL_send 21 = .ok (.astore 6, 2) := by decide +kernel
theorem dL_send_23 : decode cL_send 23 = .ok (.iconst 2, 1) := by decide +kernel
theorem dL_send_24 : decode cL_send 24 = .ok (.ireturn, 1) := by decide +kernel
set_option maxRecDepth 20000 in
theorem ggL_approach_X8_approach : GoodIn wsL_approach wsX8_approach := goodIn_ca (goodIn_ca (goodIn_ca (goodIn_r _ [7, 8, 9, 10, 11, 12, 13, 6, 14, 15, 16, 17, 18, 19, 20, 21, 22, 23, 24, 25, 26, 27, 28, 29, 30, 31, 32, 33, 34, 35, 36, 37, 38, 39, 40, 41, 42, 43, 44, 45, 46, 47, 48, 49, 50, 51] (by decide +kernel) (by decide +kernel)) (goodIn_sub (fun _ h => List.mem_cons_of_mem _ (List.mem_append_left _ (List.mem_append_right _ h))) (by decide +kernel))) (goodIn_sub (fun _ h => List.mem_cons_of_mem _ (List.mem_append_right _ h)) (by decide +kernel))) (goodIn_sub (fun _ h => List.mem_cons_of_mem _ (List.mem_append_left _ (List.mem_append_left _ (List.mem_append_right _ h)))) (by decide +kernel))
set_option maxRecDepth 20000 in
theorem gL_approach_X8_approach : GoodIn wsL_approach (wsV RL 56 RX8 yX8_approach wsX8_approach) := goodIn_app (goodIn_of _ (by decide +kernel)) ggL_approach_X8_approach
theorem dL_approach_0 : decode cL_approach 0 = .ok (.aload_n 3, 1) := by decide +kernel
theorem dL_approach_1 : decode cL_approach 1 = .ok (.iconst 0, 1) := by decide +kernel
theorem dL_approach_2 : decode cL_approach 2 = .ok (.aload_n 0, 1) := by decide +kernel
theorem dL_approach_3 : decode cL_approach 3 = .ok (.iload_n 1, 1) := by decide +kernel
theorem dL_approach_4 : decode cL_approach 4 = .ok (.iload_n 2, 1) := by decide +kernel
theorem dL_approach_5 : decode cL_approach 5 = .ok (.invokevirtual 56, 3) := by decide +kernel
theorem dL_approach_8 : decode cL_approach 8 = .ok (.i2l, 1) := by decide +kernel
theorem dL_approach_9 : decode cL_approach 9 = .ok (.lastore, 1) := by decide +kernel
theorem dL_approach_10 : decode cL_approach 10 = .ok (.goto 11, 3) := by decide +kernel
theorem dL_approach_13 : decode cL_approach 13 = .ok (.astore 4, 2) := by decide +kernel
theorem dL_approach_15 : decode cL_approach 15 = .ok (.iconst 1, 1) := by decide +kernel
theorem dL_approach_16 : decode cL_approach 16 = .ok (.ireturn, 1) := by decide +kernel
theorem dL_approach_21 : decode cL_approach 21 = .ok (.iconst 0, 1) := by decide +kernel
theorem dL_approach_22 : decode cL_approach 22 = .ok (.ireturn, 1) := by decide +kernel
set_option maxRecDepth 20000 in
theorem ggL_burn_X8_burn : GoodIn wsL_burn wsX8_burn := goodIn_ca (goodIn_ca (goodIn_ca (goodIn_ca (goodIn_ca (goodIn_r _ [9, 10, 11, 12, 13, 14, 15, 16, 17, 18, 19, 20, 21, 22, 23, 24, 25, 8, 26, 27, 28, 29, 30, 31, 32, 33, 34, 35, 36, 37, 38, 39, 40, 41, 42, 43, 44, 45, 46, 47, 48, 49, 50, 51, 52, 53, 54, 55] (by decide +kernel) (by decide +kernel)) (goodIn_sub (fun _ h => List.mem_cons_of_mem _ (List.mem_append_left _ (List.mem_append_left _ (List.mem_append_left _ (List.mem_append_left _ (List.mem_append_right _ h)))))) (by decide +kernel))) (goodIn_sub (fun _ h => List.mem_cons_of_mem _ (List.mem_append_left _ (List.mem_append_left _ (List.mem_append_left _ (List.mem_append_right _ h))))) (by decide +kernel))) (goodIn_sub (fun _ h => List.mem_cons_of_mem _ (List.mem_append_left _ (List.mem_append_left _ (List.mem_append_right _ h)))) (by decide +kernel))) (goodIn_sub (fun _ h => List.mem_cons_of_mem _ (List.mem_append_left _ (List.mem_append_right _ h))) (by decide +kernel))) (goodIn_sub (fun _ h => List.mem_cons_of_mem _ (List.mem_append_right _ h)) (by decide +kernel))
set_option maxRecDepth 20000 in
theorem gL_burn_X8_burn : GoodIn wsL_burn (wsV RL 59 RX8 yX8_burn wsX8_burn) := goodIn_app (goodIn_of _ (by decide +kernel)) ggL_burn_X8_burn
theorem dL_burn_0 : decode cL_burn 0 = .ok (.aload_n 3, 1) := by decide +kernel
theorem dL_burn_1 : decode cL_burn 1 = .ok (.iconst 0, 1) := by decide +kernel
theorem dL_burn_2 : decode cL_burn 2 = .ok (.aload_n 0, 1) := by decide +kernel
theorem dL_burn_3 : decode cL_burn 3 = .ok (.iload_n 1, 1) := by decide +kernel
theorem dL_burn_4 : decode cL_burn 4 = .ok (.iload_n 2, 1) := by decide +kernel
theorem dL_burn_5 : decode cL_burn 5 = .ok (.invokevirtual 59, 3) := by decide +kernel
theorem dL_burn_13 : decode cL_burn 13 = .ok (.astore 4, 2) := by decide +kernel
theorem dL_burn_15 : decode cL_burn 15 = .ok (.iconst 1, 1) := by decide +kernel
theorem dL_burn_16 : decode cL_burn 16 = .ok (.ireturn, 1) := by decide +kernel
set_option maxRecDepth 20000 in
theorem ggL_pass_X8_pass_k0 : GoodIn wsL_pass [.code yX8_pass cX8_pass 3 (some .int)] := goodIn_r _ [7] (by decide +kernel) (by decide +kernel)
set_option maxRecDepth 20000 in
theorem ggL_pass_X8_pass_k1 : GoodIn wsL_pass wsX8_pass_r1 := goodIn_r _ [8, 9, 10, 11, 12, 13, 6, 14, 15, 16, 17, 18, 19, 20, 21, 22, 23, 24, 25, 26, 27, 28, 29, 30] (by decide +kernel) (by decide +kernel)
set_option maxRecDepth 20000 in
theorem ggL_pass_X8_pass_k2 : GoodIn wsL_pass wsX8_pass_r2 := goodIn_r _ [31, 32, 33, 34, 35, 36, 37, 38, 39, 40, 41, 42, 43, 44, 45, 46, 47, 48, 49, 50, 51, 52, 53, 54] (by decide +kernel) (by decide +kernel)
set_option maxRecDepth 20000 in
theorem ggL_pass_X8_pass_k3 : GoodIn wsL_pass wsX8_pass_r3 := goodIn_r _ [55, 56, 57, 58, 59, 60, 61, 62, 63, 64, 65, 66, 67, 68, 69, 70, 71, 72, 73, 74, 75, 76, 77, 78] (by decide +kernel) (by decide +kernel)
set_option maxRecDepth 20000 in
theorem ggL_pass_X8_pass_k4 : GoodIn wsL_pass wsX8_pass_r4 := goodIn_r _ [79, 80, 81, 82, 83, 84, 85, 86, 87, 88, 89, 90, 91, 92, 93, 94, 95, 96, 97, 98, 99, 100, 101, 102] (by decide +kernel) (by decide +kernel)
set_option maxRecDepth 20000 in
theorem ggL_pass_X8_pass_k5 : GoodIn wsL_pass wsX8_pass_r5 := goodIn_r _ [103, 104, 105, 106, 107, 108, 109, 110, 111, 112, 113, 114, 115, 116, 117, 118, 119, 120, 121, 122, 123, 124, 125, 126] (by decide +kernel) (by decide +kernel)
set_option maxRecDepth 20000 in
theorem ggL_pass_X8_pass_k6 : GoodIn wsL_pass wsX8_pass_r6 := goodIn_r _ [127, 128, 129, 130, 131, 132, 133, 134, 135, 136, 137, 138, 139, 140, 141, 142, 143, 144, 145, 146, 147, 148, 149, 150] (by decide +kernel) (by decide +kernel)
set_option maxRecDepth 20000 in
theorem ggL_pass_X8_pass_k7 : GoodIn wsL_pass wsX8_pass_r7 := goodIn_r _ [151, 152, 153, 154, 155, 156, 157, 158, 159, 160, 161, 162, 163, 164, 165, 166, 167, 168, 169, 170, 171, 172, 173, 174] (by decide +kernel) (by decide +kernel)
set_option maxRecDepth 20000 in
theorem ggL_pass_X8_pass_k8 : GoodIn wsL_pass wsX8_pass_r8 := goodIn_r _ [175, 176, 177, 178, 179, 180, 181, 182, 183, 184, 185, 186, 187, 188, 189, 190, 191, 192, 193, 194, 195, 196, 197, 198] (by decide +kernel) (by decide +kernel)
set_option maxRecDepth 20000 in
theorem ggL_pass_X8_pass_k9 : GoodIn wsL_pass wsX8_pass_r9 := goodIn_r _ [199, 200, 201, 202] (by decide +kernel) (by decide +kernel)
set_option maxRecDepth 20000 in
theorem ggL_pass_X8_pass_k10 : GoodIn wsL_pass wsX80 := goodIn_r _ [203, 204] (by decide +kernel) (by decide +kernel)
set_option maxRecDepth 20000 in
theorem ggL_pass_X8_pass_k11 : GoodIn wsL_pass wsX70 := goodIn_r _ [205, 206, 207, 208, 209, 210, 211, 212, 213, 214, 215, 216, 217, 218] (by decide +kernel) (by decide +kernel)
set_option maxRecDepth 20000 in
theorem ggL_pass_X8_pass_k12 : GoodIn wsL_pass wsX00 := goodIn_r _ [219, 220, 221, 222, 223] (by decide +kernel) (by decide +kernel)
set_option maxRecDepth 20000 in
theorem ggL_pass_X8_pass_k13 : GoodIn wsL_pass wsX30 := goodIn_r _ [224, 225] (by decide +kernel) (by decide +kernel)
set_option maxRecDepth 20000 in
theorem ggL_pass_X8_pass_k14 : GoodIn wsL_pass wsX20 := goodIn_r _ [226, 227, 228, 229, 230] (by decide +kernel) (by decide +kernel)
set_option maxRecDepth 20000 in
theorem ggL_pass_X8_pass_k15 : GoodIn wsL_pass wsX40 := goodIn_r _ [231, 232, 233, 234] (by decide +kernel) (by decide +kernel)
set_option maxRecDepth 20000 in
theorem ggL_pass_X8_pass_k16 : GoodIn wsL_pass wsX60 := goodIn_r _ [235, 236, 237, 238, 239, 240] (by decide +kernel) (by decide +kernel)
set_option maxRecDepth 20000 in
theorem ggL_pass_X8_pass_k17 : GoodIn wsL_pass wsX50 := goodIn_r _ [241, 242, 243, 244, 245] (by decide +kernel) (by decide +kernel)
set_option maxRecDepth 20000 in
theorem ggL_pass_X8_pass_k18 : GoodIn wsL_pass wsX10 := goodIn_r _ [246, 247, 248, 249, 250, 251] (by decide +kernel) (by decide +kernel)
set_option maxRecDepth 20000 in
theorem ggL_pass_X8_pass : GoodIn wsL_pass wsX8_pass := goodIn_ca (goodIn_ca (goodIn_ca (goodIn_cons1 ggL_pass_X8_pass_k0 (goodIn_app (goodIn_app (goodIn_app (goodIn_app (goodIn_app (goodIn_app (goodIn_app (goodIn_app (goodIn_app (goodIn_app ggL_pass_X8_pass_k1 (goodIn_app ggL_pass_X8_pass_k2 (goodIn_app ggL_pass_X8_pass_k3 (goodIn_app ggL_pass_X8_pass_k4 (goodIn_app ggL_pass_X8_pass_k5 (goodIn_app ggL_pass_X8_pass_k6 (goodIn_app ggL_pass_X8_pass_k7 (goodIn_app ggL_pass_X8_pass_k8 ggL_pass_X8_pass_k9)))))))) ggL_pass_X8_pass_k10) ggL_pass_X8_pass_k11) ggL_pass_X8_pass_k12) ggL_pass_X8_pass_k13) ggL_pass_X8_pass_k14) ggL_pass_X8_pass_k15) ggL_pass_X8_pass_k16) ggL_pass_X8_pass_k17) ggL_pass_X8_pass_k18)) (goodIn_sub (fun _ h => List.mem_cons_of_mem _ (List.mem_append_left _ (List.mem_append_right _ h))) (by decide +kernel))) (goodIn_sub (fun _ h => List.mem_cons_of_mem _ (List.mem_append_right _ h)) (by decide +kernel))) (goodIn_sub (fun _ h => List.mem_cons_of_mem _ (List.mem_append_left _ (List.mem_append_left _ (List.mem_append_right _ h)))) (by decide +kernel))
set_option maxRecDepth 20000 in
theorem gL_pass_X8_pass : GoodIn wsL_pass (wsV RL 62 RX8 yX8_pass wsX8_pass) := goodIn_app (goodIn_of _ (by decide +kernel)) ggL_pass_X8_pass
theorem dL_pass_0 : decode cL_pass 0 = .ok (.aload_n 2, 1) := by decide +kernel
theorem dL_pass_1 : decode cL_pass 1 = .ok (.iconst 0, 1) := by decide +kernel
theorem dL_pass_2 : decode cL_pass 2 = .ok (.aload_n 0, 1) := by decide +kernel
theorem dL_pass_3 : decode cL_pass 3 = .ok (.iload_n 1, 1) := by decide +kernel
theorem dL_pass_4 : decode cL_pass 4 = .ok (.invokevirtual 62, 3) := by decide +kernel
theorem dL_pass_7 : decode cL_pass 7 = .ok (.i2l, 1) := by decide +kernel
theorem dL_pass_8 : decode cL_pass 8 = .ok (.lastore, 1) := by decide +kernel
theorem dL_pass_9 : decode cL_pass 9 = .ok (.goto 9, 3) := by decide +kernel
theorem dL_pass_12 : decode cL_pass 12 = .ok (.astore_n 3, 1) := by decide +kernel
theorem dL_pass_13 : decode cL_pass 13 = .ok (.iconst 1, 1) := by decide +kernel
theorem dL_pass_14 : decode cL_pass 14 = .ok (.ireturn, 1) := by decide +kernel
theorem dL_pass_18 : decode cL_pass 18 = .ok (.iconst 0, 1) := by decide +kernel
theorem dL_pass_19 : decode cL_pass 19 = .ok (.ireturn, 1) := by decide +kernel
set_option maxRecDepth 20000 in
theorem ggL_oxygen_X8_oxygen : GoodIn wsL_oxygen wsX8_oxygen := goodIn_ca (goodIn_ca (goodIn_r _ [6, 7, 8, 9, 10, 11, 12, 5, 13, 14, 15, 16, 17, 18, 19, 20, 21, 22, 23, 24, 25, 26, 27, 28, 29, 30, 31, 32, 33, 34, 35, 36, 37, 38, 39, 40] (by decide +kernel) (by decide +kernel)) (goodIn_sub (fun _ h => List.mem_cons_of_mem _ (List.mem_append_left _ (List.mem_append_right _ h))) (by decide +kernel))) (goodIn_sub (fun _ h => List.mem_cons_of_mem _ (List.mem_append_right _ h)) (by decide +kernel))
set_option maxRecDepth 20000 in
theorem gL_oxygen_X8_oxygen : GoodIn wsL_oxygen (wsV RL 67 RX8 yX8_oxygen wsX8_oxygen) := goodIn_app (goodIn_of _ (by decide +kernel)) ggL_oxygen_X8_oxygen
theorem dL_oxygen_0 : decode cL_oxygen 0 = .ok (.aload_n 2, 1) := by decide +kernel
theorem dL_oxygen_1 : decode cL_oxygen 1 = .ok (.iconst 0, 1) := by decide +kernel
theorem dL_oxygen_2 : decode cL_oxygen 2 = .ok (.aload_n 0, 1) := by decide +kernel
theorem dL_oxygen_3 : decode cL_oxygen 3 = .ok (.iload_n 1, 1) := by decide +kernel
theorem dL_oxygen_4 : decode cL_oxygen 4 = .ok (.invokevirtual 67, 3) := by decide +kernel
theorem dL_oxygen_12 : decode cL_oxygen 12 = .ok (.astore_n 3, 1) := by decide +kernel
theorem dL_oxygen_13 : decode cL_oxygen 13 = .ok (.iconst 1, 1) := by decide +kernel
theorem dL_oxygen_14 : decode cL_oxygen 14 = .ok (.ireturn, 1) := by decide +kernel
set_option maxRecDepth 20000 in
theorem ggL_carbon_X8_carbon : GoodIn wsL_carbon wsX8_carbon := goodIn_ca (goodIn_ca (goodIn_r _ [6, 7, 8, 9, 10, 11, 12, 5, 13, 14, 15, 16, 17, 18, 19, 20, 21, 22, 23, 24, 25, 26, 27, 28, 29, 30, 31, 32, 33, 34, 35, 36, 37, 38, 39, 40] (by decide +kernel) (by decide +kernel)) (goodIn_sub (fun _ h => List.mem_cons_of_mem _ (List.mem_append_left _ (List.mem_append_right _ h))) (by decide +kernel))) (goodIn_sub (fun _ h => List.mem_cons_of_mem _ (List.mem_append_right _ h)) (by decide +kernel))
set_option maxRecDepth 20000 in
theorem gL_carbon_X8_carbon : GoodIn wsL_carbon (wsV RL 70 RX8 yX8_carbon wsX8_carbon) := goodIn_app (goodIn_of _ (by decide +kernel)) ggL_carbon_X8_carbon
theorem dL_carbon_0 : decode cL_carbon 0 = .ok (.aload_n 2, 1) := by decide +kernel
theorem dL_carbon_1 : decode cL_carbon 1 = .ok (.iconst 0, 1) := by decide +kernel
theorem dL_carbon_2 : decode cL_carbon 2 = .ok (.aload_n 0, 1) := by decide +kernel
theorem dL_carbon_3 : decode cL_carbon 3 = .ok (.iload_n 1, 1) := by decide +kernel
theorem dL_carbon_4 : decode cL_carbon 4 = .ok (.invokevirtual 70, 3) := by decide +kernel
theorem dL_carbon_12 : decode cL_carbon 12 = .ok (.astore_n 3, 1) := by decide +kernel
theorem dL_carbon_13 : decode cL_carbon 13 = .ok (.iconst 1, 1) := by decide +kernel
theorem dL_carbon_14 : decode cL_carbon 14 = .ok (.ireturn, 1) := by decide +kernel
set_option maxRecDepth 20000 in
theorem ggL_whereIs_X8_whereIs : GoodIn wsL_whereIs wsX8_whereIs := goodIn_ca (goodIn_ca (goodIn_r _ [6, 7, 8, 9, 10, 11, 12, 13, 5, 14, 15, 16, 17, 18, 19, 20, 21, 22, 23, 24, 25, 26, 27, 28, 29, 30, 31, 32, 33, 34, 35, 36, 37, 38] (by decide +kernel) (by decide +kernel)) (goodIn_sub (fun _ h => List.mem_cons_of_mem _ (List.mem_append_left _ (List.mem_append_right _ h))) (by decide +kernel))) (goodIn_sub (fun _ h => List.mem_cons_of_mem _ (List.mem_append_right _ h)) (by decide +kernel))
set_option maxRecDepth 20000 in
theorem gL_whereIs_X8_whereIs : GoodIn wsL_whereIs (wsV RL 73 RX8 yX8_whereIs wsX8_whereIs) := goodIn_app (goodIn_of _ (by decide +kernel)) ggL_whereIs_X8_whereIs
theorem dL_whereIs_0 : decode cL_whereIs 0 = .ok (.aload_n 2, 1) := by decide +kernel
theorem dL_whereIs_1 : decode cL_whereIs 1 = .ok (.iconst 0, 1) := by decide +kernel
theorem dL_whereIs_2 : decode cL_whereIs 2 = .ok (.aload_n 0, 1) := by decide +kernel
theorem dL_whereIs_3 : decode cL_whereIs 3 = .ok (.iload_n 1, 1) := by decide +kernel
theorem dL_whereIs_4 : decode cL_whereIs 4 = .ok (.invokevirtual 73, 3) := by decide +kernel
theorem dL_whereIs_12 : decode cL_whereIs 12 = .ok (.astore_n 3, 1) := by decide +kernel
theorem dL_whereIs_13 : decode cL_whereIs 13 = .ok (.iconst 1, 1) := by decide +kernel
theorem dL_whereIs_14 : decode cL_whereIs 14 = .ok (.ireturn, 1) := by decide +kernel
set_option maxRecDepth 20000 in
theorem ggL_distance_X8_distance : GoodIn wsL_distance wsX8_distance := goodIn_ca (goodIn_ca (goodIn_r _ [6, 7, 8, 9, 10, 11, 12, 13, 5, 14, 15, 16, 17, 18, 19, 20, 21, 22, 23, 24, 25, 26, 27, 28, 29, 30, 31, 32, 33, 34, 35, 36, 37, 38] (by decide +kernel) (by decide +kernel)) (goodIn_sub (fun _ h => List.mem_cons_of_mem _ (List.mem_append_left _ (List.mem_append_right _ h))) (by decide +kernel))) (goodIn_sub (fun _ h => List.mem_cons_of_mem _ (List.mem_append_right _ h)) (by decide +kernel))
set_option maxRecDepth 20000 in
theorem gL_distance_X8_distance : GoodIn wsL_distance (wsV RL 76 RX8 yX8_distance wsX8_distance) := goodIn_app (goodIn_of _ (by decide +kernel)) ggL_distance_X8_distance
theorem dL_distance_0 : decode cL_distance 0 = .ok (.aload_n 2, 1) := by decide +kernel
theorem dL_distance_1 : decode cL_distance 1 = .ok (.iconst 0, 1) := by decide +kernel
theorem dL_distance_2 : decode cL_distance 2 = .ok (.aload_n 0, 1) := by decide +kernel
theorem dL_distance_3 : decode cL_distance 3 = .ok (.iload_n 1, 1) := by decide +kernel
theorem dL_distance_4 : decode cL_distance 4 = .ok (.invokevirtual 76, 3) := by decide +kernel
theorem dL_distance_12 : decode cL_distance 12 = .ok (.astore_n 3, 1) := by decide +kernel
theorem dL_distance_13 : decode cL_distance 13 = .ok (.iconst 1, 1) := by decide +kernel
theorem dL_distance_14 : decode cL_distance 14 = .ok (.ireturn, 1) := by decide +kernel
set_option maxRecDepth 20000 in
theorem ggL_isOn_X8_isOn : GoodIn wsL_isOn wsX8_isOn := goodIn_ca (goodIn_ca (goodIn_r _ [6, 7, 8, 9, 10, 11, 12, 5, 13, 14, 15, 16, 17, 18, 19, 20, 21, 22, 23, 24, 25, 26, 27, 28, 29, 30, 31, 32, 33, 34, 35, 36] (by decide +kernel) (by decide +kernel)) (goodIn_sub (fun _ h => List.mem_cons_of_mem _ (List.mem_append_left _ (List.mem_append_right _ h))) (by decide +kernel))) (goodIn_sub (fun _ h => List.mem_cons_of_mem _ (List.mem_append_right _ h)) (by decide +kernel))
set_option maxRecDepth 20000 in
theorem gL_isOn_X8_isOn : GoodIn wsL_isOn (wsV RL 79 RX8 yX8_isOn wsX8_isOn) := goodIn_app (goodIn_of _ (by decide +kernel)) ggL_isOn_X8_isOn
theorem dL_isOn_0 : decode cL_isOn 0 = .ok (.aload_n 2, 1) := by decide +kernel
theorem dL_isOn_1 : decode cL_isOn 1 = .ok (.iconst 0, 1) := by decide +kernel
theorem dL_isOn_2 : decode cL_isOn 2 = .ok (.aload_n 0, 1) := by decide +kernel
theorem dL_isOn_3 : decode cL_isOn 3 = .ok (.iload_n 1, 1) := by decide +kernel
theorem dL_isOn_4 : decode cL_isOn 4 = .ok (.invokevirtual 79, 3) := by decide +kernel
theorem dL_isOn_19 : decode cL_isOn 19 = .ok (.astore_n 3, 1) := by decide +kernel
theorem dL_isOn_20 : decode cL_isOn 20 = .ok (.iconst 1, 1) := by decide +kernel
theorem dL_isOn_21 : decode cL_isOn 21 = .ok (.ireturn, 1) := by decide +kernel
set_option maxRecDepth 20000 in
theorem ggL_eventAt_X8_eventAt : GoodIn wsL_eventAt wsX8_eventAt := goodIn_ca (goodIn_ca (goodIn_r _ [6, 7, 8, 9, 10, 11, 12, 5, 13, 14, 15, 16, 17, 18, 19, 20, 21, 22, 23, 24, 25, 26, 27, 28, 29, 30, 31, 32, 33] (by decide +kernel) (by decide +kernel)) (goodIn_sub (fun _ h => List.mem_cons_of_mem _ (List.mem_append_left _ (List.mem_append_right _ h))) (by decide +kernel))) (goodIn_sub (fun _ h => List.mem_cons_of_mem _ (List.mem_append_right _ h)) (by decide +kernel))
set_option maxRecDepth 20000 in
theorem gL_eventAt_X8_eventAt : GoodIn wsL_eventAt (wsV RL 83 RX8 yX8_eventAt wsX8_eventAt) := goodIn_app (goodIn_of _ (by decide +kernel)) ggL_eventAt_X8_eventAt
theorem dL_eventAt_0 : decode cL_eventAt 0 = .ok (.aload_n 2, 1) := by decide +kernel
theorem dL_eventAt_1 : decode cL_eventAt 1 = .ok (.iconst 0, 1) := by decide +kernel
theorem dL_eventAt_2 : decode cL_eventAt 2 = .ok (.aload_n 0, 1) := by decide +kernel
theorem dL_eventAt_3 : decode cL_eventAt 3 = .ok (.iload_n 1, 1) := by decide +kernel
theorem dL_eventAt_4 : decode cL_eventAt 4 = .ok (.invokevirtual 83, 3) := by decide +kernel
theorem dL_eventAt_12 : decode cL_eventAt 12 = .ok (.astore_n 3, 1) := by decide +kernel
theorem dL_eventAt_13 : decode cL_eventAt 13 = .ok (.iconst 1, 1) := by decide +kernel
theorem dL_eventAt_14 : decode cL_eventAt 14 = .ok (.ireturn, 1) := by decide +kernel
set_option maxRecDepth 20000 in
theorem ggL_aliveShare_X8_aliveShare : GoodIn wsL_aliveShare wsX8_aliveShare := goodIn_ca (goodIn_r _ [6, 7, 8, 9, 10, 11, 12, 13, 14, 15, 16, 17, 18, 19, 20, 21, 22, 23, 24, 25, 26, 27, 28, 29, 30, 31, 32, 33, 34, 35, 36, 37, 38, 39, 40] (by decide +kernel) (by decide +kernel)) (goodIn_sub (fun _ h => List.mem_cons_of_mem _ (List.mem_append_right _ h)) (by decide +kernel))
set_option maxRecDepth 20000 in
theorem gL_aliveShare_X8_aliveShare : GoodIn wsL_aliveShare (wsV RL 87 RX8 yX8_aliveShare wsX8_aliveShare) := goodIn_app (goodIn_of _ (by decide +kernel)) ggL_aliveShare_X8_aliveShare
theorem dL_aliveShare_0 : decode cL_aliveShare 0 = .ok (.aload_n 1, 1) := by decide +kernel
theorem dL_aliveShare_1 : decode cL_aliveShare 1 = .ok (.iconst 0, 1) := by decide +kernel
theorem dL_aliveShare_2 : decode cL_aliveShare 2 = .ok (.aload_n 0, 1) := by decide +kernel
theorem dL_aliveShare_3 : decode cL_aliveShare 3 = .ok (.invokevirtual 87, 3) := by decide +kernel
theorem dL_aliveShare_11 : decode cL_aliveShare 11 = .ok (.astore_n 2, 1) := by decide +kernel
theorem dL_aliveShare_12 : decode cL_aliveShare 12 = .ok (.iconst 1, 1) := by decide +kernel
theorem dL_aliveShare_13 : decode cL_aliveShare 13 = .ok (.ireturn, 1) := by decide +kernel
set_option maxRecDepth 20000 in
theorem ggL_meanOxygen_X8_meanOxygen : GoodIn wsL_meanOxygen wsX8_meanOxygen := goodIn_ca (goodIn_ca (goodIn_r _ [6, 7, 8, 9, 10, 11, 12, 13, 14, 15, 16, 17, 18, 19, 20, 21, 22, 23, 24, 25, 26, 27, 28, 29, 30, 31, 32, 33, 34, 35, 36, 37, 38, 39] (by decide +kernel) (by decide +kernel)) (goodIn_sub (fun _ h => List.mem_cons_of_mem _ (List.mem_append_right _ h)) (by decide +kernel))) (goodIn_sub (fun _ h => List.mem_cons_of_mem _ (List.mem_append_left _ (List.mem_append_right _ h))) (by decide +kernel))
set_option maxRecDepth 20000 in
theorem gL_meanOxygen_X8_meanOxygen : GoodIn wsL_meanOxygen (wsV RL 91 RX8 yX8_meanOxygen wsX8_meanOxygen) := goodIn_app (goodIn_of _ (by decide +kernel)) ggL_meanOxygen_X8_meanOxygen
theorem dL_meanOxygen_0 : decode cL_meanOxygen 0 = .ok (.aload_n 1, 1) := by decide +kernel
theorem dL_meanOxygen_1 : decode cL_meanOxygen 1 = .ok (.iconst 0, 1) := by decide +kernel
theorem dL_meanOxygen_2 : decode cL_meanOxygen 2 = .ok (.aload_n 0, 1) := by decide +kernel
theorem dL_meanOxygen_3 : decode cL_meanOxygen 3 = .ok (.invokevirtual 91, 3) := by decide +kernel
theorem dL_meanOxygen_10 : decode cL_meanOxygen 10 = .ok (.astore_n 2, 1) := by decide +kernel
theorem dL_meanOxygen_11 : decode cL_meanOxygen 11 = .ok (.iconst 1, 1) := by decide +kernel
theorem dL_meanOxygen_12 : decode cL_meanOxygen 12 = .ok (.ireturn, 1) := by decide +kernel
