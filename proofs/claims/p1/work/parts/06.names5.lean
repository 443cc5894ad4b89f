theorem dX15_eventAt_0 : decode cX15_eventAt 0 = .ok (.iload_n 1, 1) := by decide +kernel
theorem dX15_eventAt_1 : decode cX15_eventAt 1 = .ok (.iconst 0, 1) := by decide +kernel
theorem dX15_eventAt_2 : decode cX15_eventAt 2 = .ok (.aload_n 0, 1) := by decide +kernel
theorem dX15_eventAt_3 : decode cX15_eventAt 3 = .ok (.getfield 10, 3) := by decide +kernel
theorem dX15_eventAt_6 : decode cX15_eventAt 6 = .ok (.getfield 189, 3) := by decide +kernel
theorem dX15_eventAt_9 : decode cX15_eventAt 9 = .ok (.invokeinterface 24 1, 5) := by decide +kernel
theorem dX15_eventAt_14 : decode cX15_eventAt 14 = .ok (.iconst 1, 1) := by decide +kernel
theorem dX15_eventAt_15 : decode cX15_eventAt 15 = .ok (.isub, 1) := by decide +kernel
theorem dX15_eventAt_16 : decode cX15_eventAt 16 = .ok (.invokestatic 30, 3) := by decide +kernel
theorem dX15_eventAt_19 : decode cX15_eventAt 19 = .ok (.ifCond .eq 28, 3) := by decide +kernel
theorem dX15_eventAt_22 : decode cX15_eventAt 22 = .ok (.aload_n 0, 1) := by decide +kernel
theorem dX15_eventAt_23 : decode cX15_eventAt 23 = .ok (.iconst 0, 1) := by decide +kernel
theorem dX15_eventAt_24 : decode cX15_eventAt 24 = .ok (.putfield 16, 3) := by decide +kernel
theorem dX15_eventAt_27 : decode cX15_eventAt 27 = .ok (.aload_n 0, 1) := by decide +kernel
theorem dX15_eventAt_28 : decode cX15_eventAt 28 = .ok (.getfield 10, 3) := by decide +kernel
theorem dX15_eventAt_31 : decode cX15_eventAt 31 = .ok (.getfield 189, 3) := by decide +kernel
theorem dX15_eventAt_34 : decode cX15_eventAt 34 = .ok (.iload_n 1, 1) := by decide +kernel
theorem dX15_eventAt_35 : decode cX15_eventAt 35 = .ok (.invokeinterface 75 2, 5) := by decide +kernel
theorem dX15_eventAt_40 : decode cX15_eventAt 40 = .ok (.checkcast 192, 3) := by decide +kernel
theorem dX15_eventAt_43 : decode cX15_eventAt 43 = .ok (.invokevirtual 194, 3) := by decide +kernel
theorem dX15_eventAt_46 : decode cX15_eventAt 46 = .ok (.ireturn, 1) := by decide +kernel
theorem dX15_eventAt_47 : decode cX15_eventAt 47 = .ok (.aload_n 0, 1) := by decide +kernel
theorem dX15_eventAt_48 : decode cX15_eventAt 48 = .ok (.iconst 1, 1) := by decide +kernel
theorem dX15_eventAt_49 : decode cX15_eventAt 49 = .ok (.invokevirtual 198, 3) := by decide +kernel
theorem dX15_eventAt_52 : decode cX15_eventAt 52 = .ok (.i2c, 1) := by decide +kernel
theorem dX15_eventAt_53 : decode cX15_eventAt 53 = .ok (.ireturn, 1) := by decide +kernel
set_option maxRecDepth 20000 in
theorem ggX15_timeLeft_X14_copy : GoodIn wsX15_timeLeft wsX14_copy := goodIn_r _ [6, 7, 8, 5, 9, 10, 11, 12, 13, 14, 15, 16, 17, 18, 19, 20, 21, 22, 23, 24, 25, 26, 27, 28, 29, 30, 31, 32, 33, 34, 35, 36, 37, 38, 39, 40, 41, 42, 43, 44, 45, 46, 47, 48, 49, 50, 51, 52, 53, 54, 55, 56, 57, 58, 59, 60, 61, 62, 63, 64, 65, 66, 67, 68, 69, 70, 71, 72, 73, 74, 75, 76, 77, 78, 79, 80, 81, 82, 83, 84, 85, 86, 87, 88, 89, 90, 91, 92, 93, 94, 95, 96, 97, 98, 99, 100, 101, 102, 103, 104, 105, 106, 107, 108, 109, 110, 111, 112, 113, 114, 115, 116, 117, 118, 119, 120, 121, 122, 123, 124, 125, 126, 127, 128, 129, 130, 131, 132, 133, 134, 135, 136, 137, 138, 139, 140, 141, 142, 143, 144, 145, 146, 147, 148, 149, 150, 151, 152, 153, 154, 155, 156, 157, 158, 159, 160, 161, 162, 163, 164, 165, 166, 167, 168, 169, 170, 171, 172, 173, 174, 175, 176, 177, 178, 179, 180, 181, 182, 183, 184, 185, 186, 187, 188, 189, 190, 191, 192, 193, 194, 195, 196, 328, 329, 330, 331, 332, 333, 334, 335, 336, 337, 338, 339, 340, 341, 342, 343, 344, 345, 346, 347, 348, 349, 350, 351, 352, 353, 354, 355, 356, 357, 358, 359, 360, 361, 362] (by decide +kernel) (by decide +kernel)
set_option maxRecDepth 20000 in
theorem gX15_timeLeft_X14_copy : GoodIn wsX15_timeLeft (wsV RX15 201 RX14 yX14_copy wsX14_copy) := goodIn_app (goodIn_of _ (by decide +kernel)) ggX15_timeLeft_X14_copy
set_option maxRecDepth 20000 in
theorem ggX15_timeLeft_X14_timeLeft : GoodIn wsX15_timeLeft wsX14_timeLeft := goodIn_r _ [200, 201, 202, 203, 5, 204, 29, 30, 34, 126, 127, 128, 59, 129, 130, 131, 132, 133, 134, 135, 136, 137, 55, 56, 138, 139, 81, 140, 141, 142, 143, 144, 145, 146, 147, 148, 149, 150, 151, 152, 153, 154, 205, 206, 207, 208, 9, 11, 209, 210, 105, 106, 107, 13, 14, 20, 10, 50, 49, 211, 212, 213, 214, 12, 215, 216, 217, 60, 218, 219, 220, 221, 82, 222, 223, 224, 225, 226, 227, 228, 229, 230, 231, 232, 233, 234, 235, 236, 237, 65, 238, 239, 240, 241, 242, 243, 244, 245, 80, 83, 84, 85, 86, 246, 247, 248, 249, 250, 251, 252, 253, 254, 255, 256, 257, 162, 163, 164, 165, 166, 167, 168, 169, 170, 171, 172, 173, 109, 110, 111, 112, 64, 113, 114, 115, 116, 117, 118, 119, 120, 121, 122, 123, 124, 125, 91, 92, 93, 94, 95, 96, 97, 98, 99, 100, 101, 102, 103, 104, 108, 258, 259, 260, 261, 262, 21, 263, 22, 28, 264, 265, 266, 267, 37, 38, 42, 44, 48, 43, 268, 269, 270, 271, 47, 46, 272, 26, 27, 273, 274, 275, 25, 276, 180, 277, 278, 279, 280, 281, 282, 283, 284, 285, 286, 287, 288, 289, 290, 291, 292, 293, 294, 295, 296, 297, 298, 299, 300, 301, 302, 303, 304, 305, 306, 307, 308, 309, 18, 19, 310, 311, 312, 313, 35, 36, 314, 315, 316, 317, 318, 319, 320, 321, 322, 323, 324, 325, 328, 329, 330, 331, 332, 333, 334, 335, 336, 337, 338, 339, 340, 341, 349, 350, 351, 359, 360, 361, 362, 356, 357, 358, 342, 343, 344, 363, 364, 365, 366, 367, 345, 346, 347, 348, 352, 353, 354, 355, 368] (by decide +kernel) (by decide +kernel)
set_option maxRecDepth 20000 in
theorem gX15_timeLeft_X14_timeLeft : GoodIn wsX15_timeLeft (wsV RX15 205 RX14 yX14_timeLeft wsX14_timeLeft) := goodIn_app (goodIn_of _ (by decide +kernel)) ggX15_timeLeft_X14_timeLeft
theorem dX15_timeLeft_0 : decode cX15_timeLeft 0 = .ok (.aload_n 0, 1) := by decide +kernel
theorem dX15_timeLeft_1 : decode cX15_timeLeft 1 = .ok (.getfield 10, 3) := by decide +kernel
theorem dX15_timeLeft_4 : decode cX15_timeLeft 4 = .ok (.invokevirtual 201, 3) := by decide +kernel
theorem dX15_timeLeft_7 : decode cX15_timeLeft 7 = .ok (.invokevirtual 205, 3) := by decide +kernel
theorem dX15_timeLeft_10 : decode cX15_timeLeft 10 = .ok (.ireturn, 1) := by decide +kernel
set_option maxRecDepth 20000 in
theorem ggX15_worst_X15_timeLeft : GoodIn wsX15_worst wsX15_timeLeft := goodIn_r _ [13, 1, 14, 15, 16, 17, 18, 19, 20, 21, 22, 23, 24, 25, 26, 27, 28, 29, 30, 31, 32, 33, 34, 35, 36, 37, 38, 39, 40, 41, 42, 43, 44, 45, 46, 47, 48, 49, 50, 51, 52, 53, 54, 55, 56, 57, 58, 59, 60, 61, 62, 63, 64, 65, 66, 67, 68, 69, 70, 71, 72, 73, 74, 75, 76, 77, 78, 79, 80, 81, 82, 83, 84, 85, 86, 87, 88, 89, 90, 91, 92, 93, 94, 95, 96, 97, 98, 99, 100, 101, 102, 103, 104, 105, 106, 107, 108, 109, 110, 111, 112, 113, 114, 115, 116, 6, 7, 8, 117, 118, 119, 120, 121, 122, 123, 124, 125, 126, 127, 128, 129, 130, 131, 132, 133, 134, 135, 136, 137, 138, 139, 140, 141, 142, 143, 144, 145, 146, 147, 148, 149, 150, 151, 152, 153, 154, 155, 156, 157, 158, 159, 160, 161, 162, 163, 164, 165, 166, 167, 168, 169, 170, 171, 172, 173, 174, 175, 176, 177, 178, 179, 180, 181, 182, 183, 184, 185, 186, 187, 188, 189, 190, 191, 192, 193, 194, 195, 196, 197, 198, 199, 200, 201, 202, 203, 204, 205, 206, 207, 208, 209, 210, 211, 212, 213, 214, 215, 216, 217, 218, 219, 220, 221, 222, 223, 224, 225, 226, 227, 228, 229, 230, 231, 232, 233, 234, 235, 236, 237, 238, 239, 240, 241, 242, 243, 244, 245, 246, 247, 248, 249, 250, 251, 252, 253, 254, 255, 256, 257, 258, 259, 260, 261, 262, 263, 264, 265, 266, 267, 268, 269, 270, 271, 272, 273, 274, 275, 276, 277, 278, 279, 280, 281, 282, 283, 284, 285, 286, 287, 288, 289, 290, 291, 292, 293, 294, 295, 296, 297, 298, 299, 300, 301, 302, 303, 304, 305, 306, 307, 308, 309, 310, 311, 312, 313, 314, 315, 316, 317, 318, 319, 320, 321, 322, 323, 324, 325, 326, 327, 328, 329, 330, 331, 332, 333, 334, 337, 338, 339, 340, 341, 342, 343, 344, 345, 346, 347, 348, 349, 350, 351, 352, 357, 358, 359, 353, 354, 355, 356, 360, 361, 362, 363, 364, 365, 366, 367, 368, 369, 370, 371, 372, 373, 374, 375, 376, 377, 378, 379] (by decide +kernel) (by decide +kernel)
set_option maxRecDepth 20000 in
theorem gX15_worst_X15_timeLeft : GoodIn wsX15_worst (wsV RX15 208 RX15 yX15_timeLeft wsX15_timeLeft) := goodIn_app (goodIn_of _ (by decide +kernel)) ggX15_worst_X15_timeLeft
set_option maxRecDepth 20000 in
theorem ggX15_worst_Jx4a65c_size_8abf5 : GoodIn wsX15_worst wsJx4a65c_size_8abf5 := goodIn_r _ [230, 94, 367, 368, 369] (by decide +kernel) (by decide +kernel)
set_option maxRecDepth 20000 in
theorem gX15_worst_Jx4a65c_size_8abf5_f24Jx4a65c : GoodIn wsX15_worst (va_wsF RX15 24 RJx4a65c ⟨"java/util/List", "size", "()I"⟩ yJx4a65c_size_8abf5 wsJx4a65c_size_8abf5) := goodIn_app (goodIn_of _ (by decide +kernel)) ggX15_worst_Jx4a65c_size_8abf5
set_option maxRecDepth 20000 in
theorem ggX15_worst_X14_copy : GoodIn wsX15_worst wsX14_copy := goodIn_r _ [18, 19, 20, 17, 21, 22, 23, 24, 25, 26, 27, 28, 29, 30, 31, 32, 33, 34, 35, 36, 37, 38, 39, 40, 41, 42, 43, 44, 45, 46, 47, 48, 49, 50, 51, 52, 53, 54, 55, 56, 57, 58, 59, 60, 61, 62, 63, 64, 65, 66, 67, 68, 69, 70, 71, 72, 73, 74, 75, 76, 77, 78, 79, 80, 81, 82, 83, 84, 85, 86, 87, 88, 89, 90, 91, 92, 93, 94, 95, 96, 97, 98, 99, 100, 101, 102, 103, 104, 105, 106, 107, 108, 109, 110, 111, 112, 113, 114, 115, 116, 6, 7, 8, 117, 118, 119, 120, 121, 122, 123, 124, 125, 126, 127, 128, 129, 130, 131, 132, 133, 134, 135, 136, 137, 138, 139, 140, 141, 142, 143, 144, 145, 146, 147, 148, 149, 150, 151, 152, 153, 154, 155, 156, 157, 158, 159, 160, 161, 162, 163, 164, 165, 166, 167, 168, 169, 170, 171, 172, 173, 174, 175, 176, 177, 178, 179, 180, 181, 182, 183, 184, 185, 186, 187, 188, 189, 190, 191, 192, 193, 194, 195, 196, 197, 198, 199, 200, 201, 202, 203, 204, 205, 339, 340, 341, 342, 343, 344, 345, 346, 347, 348, 349, 350, 351, 352, 357, 358, 359, 353, 354, 355, 356, 360, 361, 362, 363, 364, 365, 366, 367, 368, 369, 370, 371, 372, 373] (by decide +kernel) (by decide +kernel)
set_option maxRecDepth 20000 in
theorem gX15_worst_X14_copy : GoodIn wsX15_worst (wsV RX15 201 RX14 yX14_copy wsX14_copy) := goodIn_app (goodIn_of _ (by decide +kernel)) ggX15_worst_X14_copy
set_option maxRecDepth 20000 in
theorem ggX15_worst_Jx4a65c_get_915e3 : GoodIn wsX15_worst wsJx4a65c_get_915e3 := goodIn_r _ [234, 94, 235, 236, 237, 238, 239, 240, 241, 242, 243, 244, 245, 71, 246, 77, 367, 368, 369] (by decide +kernel) (by decide +kernel)
set_option maxRecDepth 20000 in
theorem gX15_worst_Jx4a65c_get_915e3_f75Jx4a65c : GoodIn wsX15_worst (va_wsF RX15 75 RJx4a65c ⟨"java/util/List", "get", "(I)Ljava/lang/Object;"⟩ yJx4a65c_get_915e3 wsJx4a65c_get_915e3) := goodIn_app (goodIn_of _ (by decide +kernel)) ggX15_worst_Jx4a65c_get_915e3
set_option maxRecDepth 20000 in
theorem ggX15_worst_X14_timeLeft : GoodIn wsX15_worst wsX14_timeLeft := goodIn_r _ [209, 210, 211, 212, 17, 213, 41, 42, 46, 135, 136, 137, 71, 138, 139, 140, 141, 142, 143, 144, 145, 146, 67, 68, 147, 148, 93, 149, 150, 151, 152, 153, 154, 155, 156, 157, 158, 159, 160, 161, 162, 163, 214, 215, 216, 217, 21, 23, 218, 219, 6, 7, 8, 25, 26, 32, 22, 62, 61, 220, 221, 222, 223, 24, 224, 225, 226, 72, 227, 228, 229, 230, 94, 231, 232, 233, 234, 235, 236, 237, 238, 239, 240, 241, 242, 243, 244, 245, 246, 77, 247, 248, 249, 250, 251, 252, 253, 254, 92, 95, 96, 97, 98, 255, 256, 257, 258, 259, 260, 261, 262, 263, 264, 265, 266, 171, 172, 173, 174, 175, 176, 177, 178, 179, 180, 181, 182, 118, 119, 120, 121, 76, 122, 123, 124, 125, 126, 127, 128, 129, 130, 131, 132, 133, 134, 103, 104, 105, 106, 107, 108, 109, 110, 111, 112, 113, 114, 115, 116, 117, 267, 268, 269, 270, 271, 33, 272, 34, 40, 273, 274, 275, 276, 49, 50, 54, 56, 60, 55, 277, 278, 279, 280, 59, 58, 281, 38, 39, 282, 283, 284, 37, 285, 189, 286, 287, 288, 289, 290, 291, 292, 293, 294, 295, 296, 297, 298, 299, 300, 301, 302, 303, 304, 305, 306, 307, 308, 309, 310, 311, 312, 313, 314, 315, 316, 317, 318, 30, 31, 319, 320, 321, 322, 47, 48, 323, 324, 325, 326, 327, 328, 329, 330, 331, 332, 333, 334, 339, 340, 341, 342, 343, 344, 345, 346, 347, 348, 349, 350, 351, 352, 360, 361, 362, 370, 371, 372, 373, 367, 368, 369, 357, 358, 359, 374, 375, 376, 377, 378, 353, 354, 355, 356, 363, 364, 365, 366, 379] (by decide +kernel) (by decide +kernel)
set_option maxRecDepth 20000 in
theorem gX15_worst_X14_timeLeft : GoodIn wsX15_worst (wsV RX15 205 RX14 yX14_timeLeft wsX14_timeLeft) := goodIn_app (goodIn_of _ (by decide +kernel)) ggX15_worst_X14_timeLeft
theorem dX15_worst_0 : decode cX15_worst 0 = .ok (.aload_n 0, 1) := by decide +kernel
theorem dX15_worst_1 : decode cX15_worst 1 = .ok (.invokevirtual 208, 3) := by decide +kernel
theorem dX15_worst_4 : decode cX15_worst 4 = .ok (.istore_n 1, 1) := by decide +kernel
theorem dX15_worst_5 : decode cX15_worst 5 = .ok (.iconst 0, 1) := by decide +kernel
theorem dX15_worst_6 : decode cX15_worst 6 = .ok (.istore_n 2, 1) := by decide +kernel
theorem dX15_worst_7 : decode cX15_worst 7 = .ok (.iload_n 2, 1) := by decide +kernel
theorem dX15_worst_8 : decode cX15_worst 8 = .ok (.aload_n 0, 1) := by decide +kernel
theorem dX15_worst_9 : decode cX15_worst 9 = .ok (.getfield 10, 3) := by decide +kernel
theorem dX15_worst_12 : decode cX15_worst 12 = .ok (.getfield 37, 3) := by decide +kernel
theorem dX15_worst_15 : decode cX15_worst 15 = .ok (.invokeinterface 24 1, 5) := by decide +kernel
theorem dX15_worst_20 : decode cX15_worst 20 = .ok (.if_icmp .ge 43, 3) := by decide +kernel
theorem dX15_worst_23 : decode cX15_worst 23 = .ok (.aload_n 0, 1) := by decide +kernel
theorem dX15_worst_24 : decode cX15_worst 24 = .ok (.getfield 10, 3) := by decide +kernel
theorem dX15_worst_27 : decode cX15_worst 27 = .ok (.invokevirtual 201, 3) := by decide +kernel
theorem dX15_worst_30 : decode cX15_worst 30 = .ok (.astore_n 3, 1) := by decide +kernel
theorem dX15_worst_31 : decode cX15_worst 31 = .ok (.aload_n 3, 1) := by decide +kernel
theorem dX15_worst_32 : decode cX15_worst 32 = .ok (.getfield 37, 3) := by decide +kernel
theorem dX15_worst_35 : decode cX15_worst 35 = .ok (.iload_n 2, 1) := by decide +kernel
theorem dX15_worst_36 : decode cX15_worst 36 = .ok (.invokeinterface 75 2, 5) := by decide +kernel
theorem dX15_worst_41 : decode cX15_worst 41 = .ok (.checkcast 90, 3) := by decide +kernel
theorem dX15_worst_44 : decode cX15_worst 44 = .ok (.iconst 1, 1) := by decide +kernel
theorem dX15_worst_45 : decode cX15_worst 45 = .ok (.putfield 209, 3) := by decide +kernel
theorem dX15_worst_48 : decode cX15_worst 48 = .ok (.iload_n 1, 1) := by decide +kernel
theorem dX15_worst_49 : decode cX15_worst 49 = .ok (.aload_n 3, 1) := by decide +kernel
theorem dX15_worst_50 : decode cX15_worst 50 = .ok (.invokevirtual 205, 3) := by decide +kernel
theorem dX15_worst_53 : decode cX15_worst 53 = .ok (.invokestatic 212, 3) := by decide +kernel
theorem dX15_worst_56 : decode cX15_worst 56 = .ok (.istore_n 1, 1) := by decide +kernel
theorem dX15_worst_57 : decode cX15_worst 57 = .ok (.iinc 2 1, 3) := by decide +kernel
theorem dX15_worst_60 : decode cX15_worst 60 = .ok (.goto (-53), 3) := by decide +kernel
theorem dX15_worst_63 : decode cX15_worst 63 = .ok (.iload_n 1, 1) := by decide +kernel
theorem dX15_worst_64 : decode cX15_worst 64 = .ok (.ireturn, 1) := by decide +kernel
set_option maxRecDepth 20000 in
theorem ggX15_checksum_Jx4a65c_size_8abf5 : GoodIn wsX15_checksum wsJx4a65c_size_8abf5 := goodIn_r _ [11, 12, 52, 53, 54] (by decide +kernel) (by decide +kernel)
set_option maxRecDepth 20000 in
theorem gX15_checksum_Jx4a65c_size_8abf5_f24Jx4a65c : GoodIn wsX15_checksum (va_wsF RX15 24 RJx4a65c ⟨"java/util/List", "size", "()I"⟩ yJx4a65c_size_8abf5 wsJx4a65c_size_8abf5) := goodIn_app (goodIn_of _ (by decide +kernel)) ggX15_checksum_Jx4a65c_size_8abf5
set_option maxRecDepth 20000 in
theorem ggX15_checksum_Jx4a65c_get_915e3 : GoodIn wsX15_checksum wsJx4a65c_get_915e3 := goodIn_r _ [16, 12, 17, 18, 19, 20, 21, 22, 23, 24, 25, 26, 27, 10, 28, 29, 52, 53, 54] (by decide +kernel) (by decide +kernel)
set_option maxRecDepth 20000 in
theorem gX15_checksum_Jx4a65c_get_915e3_f75Jx4a65c : GoodIn wsX15_checksum (va_wsF RX15 75 RJx4a65c ⟨"java/util/List", "get", "(I)Ljava/lang/Object;"⟩ yJx4a65c_get_915e3 wsJx4a65c_get_915e3) := goodIn_app (goodIn_of _ (by decide +kernel)) ggX15_checksum_Jx4a65c_get_915e3
set_option maxRecDepth 20000 in
theorem ggX15_checksum_J6_intValue_8abf5 : GoodIn wsX15_checksum wsJ6_intValue_8abf5 := goodIn_r _ [34, 35, 55] (by decide +kernel) (by decide +kernel)
set_option maxRecDepth 20000 in
theorem gX15_checksum_J6_intValue_8abf5 : GoodIn wsX15_checksum (wsV RX15 87 RJ6 yJ6_intValue_8abf5 wsJ6_intValue_8abf5) := goodIn_app (goodIn_of _ (by decide +kernel)) ggX15_checksum_J6_intValue_8abf5
theorem dX15_checksum_0 : decode cX15_checksum 0 = .ok (.lconst 0, 1) := by decide +kernel
theorem dX15_checksum_1 : decode cX15_checksum 1 = .ok (.lstore_n 1, 1) := by decide +kernel
theorem dX15_checksum_2 : decode cX15_checksum 2 = .ok (.iconst 0, 1) := by decide +kernel
theorem dX15_checksum_3 : decode cX15_checksum 3 = .ok (.istore_n 3, 1) := by decide +kernel
theorem dX15_checksum_4 : decode cX15_checksum 4 = .ok (.iload_n 3, 1) := by decide +kernel
theorem dX15_checksum_5 : decode cX15_checksum 5 = .ok (.aload_n 0, 1) := by decide +kernel
theorem dX15_checksum_6 : decode cX15_checksum 6 = .ok (.getfield 10, 3) := by decide +kernel
theorem dX15_checksum_9 : decode cX15_checksum 9 = .ok (.getfield 20, 3) := by decide +kernel
theorem dX15_checksum_12 : decode cX15_checksum 12 = .ok (.invokeinterface 24 1, 5) := by decide +kernel
theorem dX15_checksum_17 : decode cX15_checksum 17 = .ok (.if_icmp .ge 61, 3) := by decide +kernel
theorem dX15_checksum_20 : decode cX15_checksum 20 = .ok (.ldc2_w 216, 3) := by decide +kernel
theorem dX15_checksum_23 : decode cX15_checksum 23 = .ok (.lload_n 1, 1) := by decide +kernel
theorem dX15_checksum_24 : decode cX15_checksum 24 = .ok (.lmul, 1) := by decide +kernel
theorem dX15_checksum_25 : decode cX15_checksum 25 = .ok (.aload_n 0, 1) := by decide +kernel
theorem dX15_checksum_26 : decode cX15_checksum 26 = .ok (.getfield 10, 3) := by decide +kernel
theorem dX15_checksum_29 : decode cX15_checksum 29 = .ok (.getfield 20, 3) := by decide +kernel
theorem dX15_checksum_32 : decode cX15_checksum 32 = .ok (.iload_n 3, 1) := by decide +kernel
theorem dX15_checksum_33 : decode cX15_checksum 33 = .ok (.invokeinterface 75 2, 5) := by decide +kernel
theorem dX15_checksum_38 : decode cX15_checksum 38 = .ok (.checkcast 48, 3) := by decide +kernel
theorem dX15_checksum_41 : decode cX15_checksum 41 = .ok (.invokevirtual 87, 3) := by decide +kernel
theorem dX15_checksum_44 : decode cX15_checksum 44 = .ok (.i2l, 1) := by decide +kernel
theorem dX15_checksum_45 : decode cX15_checksum 45 = .ok (.ladd, 1) := by decide +kernel
theorem dX15_checksum_46 : decode cX15_checksum 46 = .ok (.ldc2_w 218, 3) := by decide +kernel
theorem dX15_checksum_49 : decode cX15_checksum 49 = .ok (.aload_n 0, 1) := by decide +kernel
theorem dX15_checksum_50 : decode cX15_checksum 50 = .ok (.getfield 10, 3) := by decide +kernel
theorem dX15_checksum_53 : decode cX15_checksum 53 = .ok (.getfield 57, 3) := by decide +kernel
theorem dX15_checksum_56 : decode cX15_checksum 56 = .ok (.iload_n 3, 1) := by decide +kernel
theorem dX15_checksum_57 : decode cX15_checksum 57 = .ok (.invokeinterface 75 2, 5) := by decide +kernel
theorem dX15_checksum_62 : decode cX15_checksum 62 = .ok (.checkcast 48, 3) := by decide +kernel
theorem dX15_checksum_65 : decode cX15_checksum 65 = .ok (.invokevirtual 87, 3) := by decide +kernel
theorem dX15_checksum_68 : decode cX15_checksum 68 = .ok (.i2l, 1) := by decide +kernel
theorem dX15_checksum_69 : decode cX15_checksum 69 = .ok (.lmul, 1) := by decide +kernel
theorem dX15_checksum_70 : decode cX15_checksum 70 = .ok (.ladd, 1) := by decide +kernel
theorem dX15_checksum_71 : decode cX15_checksum 71 = .ok (.lstore_n 1, 1) := by decide +kernel
theorem dX15_checksum_72 : decode cX15_checksum 72 = .ok (.iinc 3 1, 3) := by decide +kernel
theorem dX15_checksum_75 : decode cX15_checksum 75 = .ok (.goto (-71), 3) := by decide +kernel
theorem dX15_checksum_78 : decode cX15_checksum 78 = .ok (.lload_n 1, 1) := by decide +kernel
theorem dX15_checksum_79 : decode cX15_checksum 79 = .ok (.lreturn, 1) := by decide +kernel
set_option maxRecDepth 20000 in
theorem ggX15_aliveShare_Jx4a65c_size_8abf5 : GoodIn wsX15_aliveShare wsJx4a65c_size_8abf5 := goodIn_r _ [7, 8, 71, 72, 73] (by decide +kernel) (by decide +kernel)
set_option maxRecDepth 20000 in
theorem gX15_aliveShare_Jx4a65c_size_8abf5_f24Jx4a65c : GoodIn wsX15_aliveShare (va_wsF RX15 24 RJx4a65c ⟨"java/util/List", "size", "()I"⟩ yJx4a65c_size_8abf5 wsJx4a65c_size_8abf5) := goodIn_app (goodIn_of _ (by decide +kernel)) ggX15_aliveShare_Jx4a65c_size_8abf5
set_option maxRecDepth 20000 in
theorem ggX15_aliveShare_X15_no : GoodIn wsX15_aliveShare wsX15_no := goodIn_r _ [13, 14, 55, 56] (by decide +kernel) (by decide +kernel)
set_option maxRecDepth 20000 in
theorem gX15_aliveShare_X15_no : GoodIn wsX15_aliveShare (wsV RX15 43 RX15 yX15_no wsX15_no) := goodIn_app (goodIn_of _ (by decide +kernel)) ggX15_aliveShare_X15_no
set_option maxRecDepth 20000 in
theorem ggX15_aliveShare_X14_alive : GoodIn wsX15_aliveShare wsX14_alive := goodIn_r _ [19, 20, 21, 22, 23, 24, 25, 6, 26, 27, 28, 29, 30, 31, 32, 33, 34, 35, 36, 37, 38, 39, 40, 41, 42, 43, 44, 45, 46, 47, 48, 49, 50, 51, 52, 53, 54, 57, 58, 59, 60, 61, 62, 63, 64, 65, 66, 67, 68, 69, 70, 74, 75, 76, 77, 78, 79, 80, 71, 72, 73] (by decide +kernel) (by decide +kernel)
set_option maxRecDepth 20000 in
theorem gX15_aliveShare_X14_alive : GoodIn wsX15_aliveShare (wsV RX15 220 RX14 yX14_alive wsX14_alive) := goodIn_app (goodIn_of _ (by decide +kernel)) ggX15_aliveShare_X14_alive
theorem dX15_aliveShare_0 : decode cX15_aliveShare 0 = .ok (.aload_n 0, 1) := by decide +kernel
theorem dX15_aliveShare_1 : decode cX15_aliveShare 1 = .ok (.getfield 10, 3) := by decide +kernel
theorem dX15_aliveShare_4 : decode cX15_aliveShare 4 = .ok (.getfield 40, 3) := by decide +kernel
theorem dX15_aliveShare_7 : decode cX15_aliveShare 7 = .ok (.invokeinterface 24 1, 5) := by decide +kernel
theorem dX15_aliveShare_12 : decode cX15_aliveShare 12 = .ok (.istore_n 1, 1) := by decide +kernel
theorem dX15_aliveShare_13 : decode cX15_aliveShare 13 = .ok (.aload_n 0, 1) := by decide +kernel
theorem dX15_aliveShare_14 : decode cX15_aliveShare 14 = .ok (.iload_n 1, 1) := by decide +kernel
theorem dX15_aliveShare_15 : decode cX15_aliveShare 15 = .ok (.ifCond .le 7, 3) := by decide +kernel
theorem dX15_aliveShare_18 : decode cX15_aliveShare 18 = .ok (.iconst 1, 1) := by decide +kernel
theorem dX15_aliveShare_19 : decode cX15_aliveShare 19 = .ok (.goto 4, 3) := by decide +kernel
theorem dX15_aliveShare_22 : decode cX15_aliveShare 22 = .ok (.iconst 0, 1) := by decide +kernel
theorem dX15_aliveShare_23 : decode cX15_aliveShare 23 = .ok (.iconst 1, 1) := by decide +kernel
theorem dX15_aliveShare_24 : decode cX15_aliveShare 24 = .ok (.invokevirtual 43, 3) := by decide +kernel
theorem dX15_aliveShare_27 : decode cX15_aliveShare 27 = .ok (.ifCond .eq 7, 3) := by decide +kernel
theorem dX15_aliveShare_30 : decode cX15_aliveShare 30 = .ok (.fconst 0, 1) := by decide +kernel
theorem dX15_aliveShare_31 : decode cX15_aliveShare 31 = .ok (.goto 14, 3) := by decide +kernel
theorem dX15_aliveShare_34 : decode cX15_aliveShare 34 = .ok (.aload_n 0, 1) := by decide +kernel
theorem dX15_aliveShare_35 : decode cX15_aliveShare 35 = .ok (.getfield 10, 3) := by decide +kernel
theorem dX15_aliveShare_38 : decode cX15_aliveShare 38 = .ok (.invokevirtual 220, 3) := by decide +kernel
theorem dX15_aliveShare_41 : decode cX15_aliveShare 41 = .ok (.i2f, 1) := by decide +kernel
theorem dX15_aliveShare_42 : decode cX15_aliveShare 42 = .ok (.iload_n 1, 1) := by decide +kernel
theorem dX15_aliveShare_43 : decode cX15_aliveShare 43 = .ok (.i2f, 1) := by decide +kernel
theorem dX15_aliveShare_44 : decode cX15_aliveShare 44 = .ok (.fdiv, 1) := by decide +kernel
theorem dX15_aliveShare_45 : decode cX15_aliveShare 45 = .ok (.freturn, 1) := by decide +kernel
set_option maxRecDepth 20000 in
theorem ggX15_meanOxygen_Jx4a65c_isEmpty_aae02 : GoodIn wsX15_meanOxygen wsJx4a65c_isEmpty_aae02 := goodIn_r _ [8, 9, 74, 75, 76] (by decide +kernel) (by decide +kernel)
set_option maxRecDepth 20000 in
theorem gX15_meanOxygen_Jx4a65c_isEmpty_aae02_f223Jx4a65c : GoodIn wsX15_meanOxygen (va_wsF RX15 223 RJx4a65c ⟨"java/util/List", "isEmpty", "()Z"⟩ yJx4a65c_isEmpty_aae02 wsJx4a65c_isEmpty_aae02) := goodIn_app (goodIn_of _ (by decide +kernel)) ggX15_meanOxygen_Jx4a65c_isEmpty_aae02
set_option maxRecDepth 20000 in
theorem ggX15_meanOxygen_X15_no : GoodIn wsX15_meanOxygen wsX15_no := goodIn_r _ [14, 15, 58, 59] (by decide +kernel) (by decide +kernel)
set_option maxRecDepth 20000 in
theorem gX15_meanOxygen_X15_no : GoodIn wsX15_meanOxygen (wsV RX15 43 RX15 yX15_no wsX15_no) := goodIn_app (goodIn_of _ (by decide +kernel)) ggX15_meanOxygen_X15_no
set_option maxRecDepth 20000 in
theorem ggX15_meanOxygen_Jx4a65c_iterator_32c93 : GoodIn wsX15_meanOxygen wsJx4a65c_iterator_32c93 := goodIn_r _ [19, 20, 21, 22, 23, 24, 25, 26, 27, 28, 29, 30, 31, 32, 33, 77, 78, 79, 80, 74, 75, 76] (by decide +kernel) (by decide +kernel)
set_option maxRecDepth 20000 in
theorem gX15_meanOxygen_Jx4a65c_iterator_32c93_f119Jx4a65c : GoodIn wsX15_meanOxygen (va_wsF RX15 119 RJx4a65c ⟨"java/util/List", "iterator", "()Ljava/util/Iterator;"⟩ yJx4a65c_iterator_32c93 wsJx4a65c_iterator_32c93) := goodIn_app (goodIn_of _ (by decide +kernel)) ggX15_meanOxygen_Jx4a65c_iterator_32c93
set_option maxRecDepth 20000 in
theorem ggX15_meanOxygen_Jx35411_hasNext_aae02 : GoodIn wsX15_meanOxygen wsJx35411_hasNext_aae02 := goodIn_r _ [37, 38, 26, 77, 78, 79, 80, 74, 75, 76] (by decide +kernel) (by decide +kernel)
set_option maxRecDepth 20000 in
theorem gX15_meanOxygen_Jx35411_hasNext_aae02_f123Jx35411 : GoodIn wsX15_meanOxygen (va_wsF RX15 123 RJx35411 ⟨"java/util/Iterator", "hasNext", "()Z"⟩ yJx35411_hasNext_aae02 wsJx35411_hasNext_aae02) := goodIn_app (goodIn_of _ (by decide +kernel)) ggX15_meanOxygen_Jx35411_hasNext_aae02
set_option maxRecDepth 20000 in
theorem ggX15_meanOxygen_Jx35411_next_0502b : GoodIn wsX15_meanOxygen wsJx35411_next_0502b := goodIn_r _ [42, 38, 26, 43, 30, 44, 45, 46, 22, 47, 31, 32, 33, 77, 78, 79, 80, 74, 75, 76] (by decide +kernel) (by decide +kernel)
set_option maxRecDepth 20000 in
theorem gX15_meanOxygen_Jx35411_next_0502b_f129Jx35411 : GoodIn wsX15_meanOxygen (va_wsF RX15 129 RJx35411 ⟨"java/util/Iterator", "next", "()Ljava/lang/Object;"⟩ yJx35411_next_0502b wsJx35411_next_0502b) := goodIn_app (goodIn_of _ (by decide +kernel)) ggX15_meanOxygen_Jx35411_next_0502b
set_option maxRecDepth 20000 in
theorem ggX15_meanOxygen_J6_intValue_8abf5 : GoodIn wsX15_meanOxygen wsJ6_intValue_8abf5 := goodIn_r _ [52, 53, 81] (by decide +kernel) (by decide +kernel)
set_option maxRecDepth 20000 in
theorem gX15_meanOxygen_J6_intValue_8abf5 : GoodIn wsX15_meanOxygen (wsV RX15 87 RJ6 yJ6_intValue_8abf5 wsJ6_intValue_8abf5) := goodIn_app (goodIn_of _ (by decide +kernel)) ggX15_meanOxygen_J6_intValue_8abf5
set_option maxRecDepth 20000 in
theorem ggX15_meanOxygen_Jx4a65c_size_8abf5 : GoodIn wsX15_meanOxygen wsJx4a65c_size_8abf5 := goodIn_r _ [57, 9, 74, 75, 76] (by decide +kernel) (by decide +kernel)
set_option maxRecDepth 20000 in
theorem gX15_meanOxygen_Jx4a65c_size_8abf5_f24Jx4a65c : GoodIn wsX15_meanOxygen (va_wsF RX15 24 RJx4a65c ⟨"java/util/List", "size", "()I"⟩ yJx4a65c_size_8abf5 wsJx4a65c_size_8abf5) := goodIn_app (goodIn_of _ (by decide +kernel)) ggX15_meanOxygen_Jx4a65c_size_8abf5
theorem dX15_meanOxygen_0 : decode cX15_meanOxygen 0 = .ok (.aload_n 0, 1) := by decide +kernel
theorem dX15_meanOxygen_1 : decode cX15_meanOxygen 1 = .ok (.aload_n 0, 1) := by decide +kernel
theorem dX15_meanOxygen_2 : decode cX15_meanOxygen 2 = .ok (.getfield 10, 3) := by decide +kernel
theorem dX15_meanOxygen_5 : decode cX15_meanOxygen 5 = .ok (.getfield 20, 3) := by decide +kernel
theorem dX15_meanOxygen_8 : decode cX15_meanOxygen 8 = .ok (.invokeinterface 223 1, 5) := by decide +kernel
theorem dX15_meanOxygen_13 : decode cX15_meanOxygen 13 = .ok (.ifCond .ne 7, 3) := by decide +kernel
theorem dX15_meanOxygen_16 : decode cX15_meanOxygen 16 = .ok (.iconst 1, 1) := by decide +kernel
theorem dX15_meanOxygen_17 : decode cX15_meanOxygen 17 = .ok (.goto 4, 3) := by decide +kernel
theorem dX15_meanOxygen_20 : decode cX15_meanOxygen 20 = .ok (.iconst 0, 1) := by decide +kernel
theorem dX15_meanOxygen_21 : decode cX15_meanOxygen 21 = .ok (.iconst 1, 1) := by decide +kernel
theorem dX15_meanOxygen_22 : decode cX15_meanOxygen 22 = .ok (.invokevirtual 43, 3) := by decide +kernel
theorem dX15_meanOxygen_25 : decode cX15_meanOxygen 25 = .ok (.ifCond .eq 5, 3) := by decide +kernel
theorem dX15_meanOxygen_28 : decode cX15_meanOxygen 28 = .ok (.dconst 0, 1) := by decide +kernel
theorem dX15_meanOxygen_29 : decode cX15_meanOxygen 29 = .ok (.dreturn, 1) := by decide +kernel
theorem dX15_meanOxygen_30 : decode cX15_meanOxygen 30 = .ok (.iconst 0, 1) := by decide +kernel
theorem dX15_meanOxygen_31 : decode cX15_meanOxygen 31 = .ok (.istore_n 1, 1) := by decide +kernel
theorem dX15_meanOxygen_32 : decode cX15_meanOxygen 32 = .ok (.aload_n 0, 1) := by decide +kernel
theorem dX15_meanOxygen_33 : decode cX15_meanOxygen 33 = .ok (.getfield 10, 3) := by decide +kernel
theorem dX15_meanOxygen_36 : decode cX15_meanOxygen 36 = .ok (.getfield 20, 3) := by decide +kernel
theorem dX15_meanOxygen_39 : decode cX15_meanOxygen 39 = .ok (.invokeinterface 119 1, 5) := by decide +kernel
theorem dX15_meanOxygen_44 : decode cX15_meanOxygen 44 = .ok (.astore_n 2, 1) := by decide +kernel
theorem dX15_meanOxygen_45 : decode cX15_meanOxygen 45 = .ok (.aload_n 2, 1) := by decide +kernel
theorem dX15_meanOxygen_46 : decode cX15_meanOxygen 46 = .ok (.invokeinterface 123 1, 5) := by decide +kernel
theorem dX15_meanOxygen_51 : decode cX15_meanOxygen 51 = .ok (.ifCond .eq 23, 3) := by decide +kernel
theorem dX15_meanOxygen_54 : decode cX15_meanOxygen 54 = .ok (.aload_n 2, 1) := by decide +kernel
theorem dX15_meanOxygen_55 : decode cX15_meanOxygen 55 = .ok (.invokeinterface 129 1, 5) := by decide +kernel
theorem dX15_meanOxygen_60 : decode cX15_meanOxygen 60 = .ok (.checkcast 48, 3) := by decide +kernel
theorem dX15_meanOxygen_63 : decode cX15_meanOxygen 63 = .ok (.invokevirtual 87, 3) := by decide +kernel
theorem dX15_meanOxygen_66 : decode cX15_meanOxygen 66 = .ok (.istore_n 3, 1) := by decide +kernel
theorem dX15_meanOxygen_67 : decode cX15_meanOxygen 67 = .ok (.iload_n 1, 1) := by decide +kernel
theorem dX15_meanOxygen_68 : decode cX15_meanOxygen 68 = .ok (.iload_n 3, 1) := by decide +kernel
theorem dX15_meanOxygen_69 : decode cX15_meanOxygen 69 = .ok (.iadd, 1) := by decide +kernel
theorem dX15_meanOxygen_70 : decode cX15_meanOxygen 70 = .ok (.istore_n 1, 1) := by decide +kernel
theorem dX15_meanOxygen_71 : decode cX15_meanOxygen 71 = .ok (.goto (-26), 3) := by decide +kernel
theorem dX15_meanOxygen_74 : decode cX15_meanOxygen 74 = .ok (.iload_n 1, 1) := by decide +kernel
theorem dX15_meanOxygen_75 : decode cX15_meanOxygen 75 = .ok (.i2d, 1) := by decide +kernel
theorem dX15_meanOxygen_76 : decode cX15_meanOxygen 76 = .ok (.aload_n 0, 1) := by decide +kernel
theorem dX15_meanOxygen_77 : decode cX15_meanOxygen 77 = .ok (.getfield 10, 3) := by decide +kernel
theorem dX15_meanOxygen_80 : decode cX15_meanOxygen 80 = .ok (.getfield 20, 3) := by decide +kernel
theorem dX15_meanOxygen_83 : decode cX15_meanOxygen 83 = .ok (.invokeinterface 24 1, 5) := by decide +kernel
theorem dX15_meanOxygen_88 : decode cX15_meanOxygen 88 = .ok (.i2d, 1) := by decide +kernel
theorem dX15_meanOxygen_89 : decode cX15_meanOxygen 89 = .ok (.ddiv, 1) := by decide +kernel
theorem dX15_meanOxygen_90 : decode cX15_meanOxygen 90 = .ok (.dreturn, 1) := by decide +kernel
theorem dX15_isSound_0 : decode cX15_isSound 0 = .ok (.iconst 1, 1) := by decide +kernel
theorem dX15_isSound_1 : decode cX15_isSound 1 = .ok (.ireturn, 1) := by decide +kernel
theorem dJx00060_init_a7421_0 : decode cJx00060_init_a7421 0 = .ok (.aload_n 0, 1) := by decide +kernel
theorem dJx00060_init_a7421_1 : decode cJx00060_init_a7421 1 = .ok (.aload_n 1, 1) := by decide +kernel
theorem dJx00060_init_a7421_2 : decode cJx00060_init_a7421 2 = .ok (.invokespecial 7, 3) := by decide +kernel
theorem dJx00060_init_a7421_5 : decode cJx00060_init_a7421 5 = .ok (.return_, 1) := by decide +kernel
theorem dJ11_init_060e9_0 : decode cJ11_init_060e9 0 = .ok (.aload_n 0, 1) := by decide +kernel
theorem dJ11_init_060e9_1 : decode cJ11_init_060e9 1 = .ok (.invokespecial 41, 3) := by decide +kernel
theorem dJ11_init_060e9_4 : decode cJ11_init_060e9 4 = .ok (.aload_n 0, 1) := by decide +kernel
theorem dJ11_init_060e9_5 : decode cJ11_init_060e9 5 = .ok (.iload_n 1, 1) := by decide +kernel
theorem dJ11_init_060e9_6 : decode cJ11_init_060e9 6 = .ok (.putfield 19, 3) := by decide +kernel
theorem dJ11_init_060e9_9 : decode cJ11_init_060e9 9 = .ok (.return_, 1) := by decide +kernel
set_option maxRecDepth 20000 in
theorem ggJ11_valueOf_f0083_J11_init_060e9 : GoodIn wsJ11_valueOf_f0083 wsJ11_init_060e9 := goodIn_r _ [7, 8, 9, 10, 11, 12] (by decide +kernel) (by decide +kernel)
set_option maxRecDepth 20000 in
theorem gJ11_valueOf_f0083_J11_init_060e9 : GoodIn wsJ11_valueOf_f0083 (wsJ11_init_060e9) := ggJ11_valueOf_f0083_J11_init_060e9
theorem dJ11_valueOf_f0083_0 : decode cJ11_valueOf_f0083 0 = .ok (.iload_n 0, 1) := by decide +kernel
theorem dJ11_valueOf_f0083_1 : decode cJ11_valueOf_f0083 1 = .ok (.bipush 127, 2) := by decide +kernel
theorem dJ11_valueOf_f0083_3 : decode cJ11_valueOf_f0083 3 = .ok (.if_icmp .gt 9, 3) := by decide +kernel
theorem dJ11_valueOf_f0083_6 : decode cJ11_valueOf_f0083 6 = .ok (.getstatic 47, 3) := by decide +kernel
theorem dJ11_valueOf_f0083_9 : decode cJ11_valueOf_f0083 9 = .ok (.iload_n 0, 1) := by decide +kernel
theorem dJ11_valueOf_f0083_10 : decode cJ11_valueOf_f0083 10 = .ok (.aaload, 1) := by decide +kernel
theorem dJ11_valueOf_f0083_11 : decode cJ11_valueOf_f0083 11 = .ok (.areturn, 1) := by decide +kernel
theorem dJ11_valueOf_f0083_12 : decode cJ11_valueOf_f0083 12 = .ok (.new 1, 3) := by decide +kernel
theorem dJ11_valueOf_f0083_15 : decode cJ11_valueOf_f0083 15 = .ok (.dup, 1) := by decide +kernel
theorem dJ11_valueOf_f0083_16 : decode cJ11_valueOf_f0083 16 = .ok (.iload_n 0, 1) := by decide +kernel
theorem dJ11_valueOf_f0083_17 : decode cJ11_valueOf_f0083 17 = .ok (.invokespecial 53, 3) := by decide +kernel
theorem dJ11_valueOf_f0083_20 : decode cJ11_valueOf_f0083 20 = .ok (.areturn, 1) := by decide +kernel
theorem dJ11_charValue_ee9a4_0 : decode cJ11_charValue_ee9a4 0 = .ok (.aload_n 0, 1) := by decide +kernel
theorem dJ11_charValue_ee9a4_1 : decode cJ11_charValue_ee9a4 1 = .ok (.getfield 19, 3) := by decide +kernel
theorem dJ11_charValue_ee9a4_4 : decode cJ11_charValue_ee9a4 4 = .ok (.ireturn, 1) := by decide +kernel
set_option maxRecDepth 20000 in
theorem ggJ6_valueOf_2dffe_J6_init_d00df : GoodIn wsJ6_valueOf_2dffe wsJ6_init_d00df := goodIn_r _ [8, 9, 10, 11, 12, 13, 14, 15, 16, 17] (by decide +kernel) (by decide +kernel)
set_option maxRecDepth 20000 in
theorem gJ6_valueOf_2dffe_J6_init_d00df : GoodIn wsJ6_valueOf_2dffe (wsJ6_init_d00df) := ggJ6_valueOf_2dffe_J6_init_d00df
theorem dJ6_valueOf_2dffe_0 : decode cJ6_valueOf_2dffe 0 = .ok (.iload_n 0, 1) := by decide +kernel
theorem dJ6_valueOf_2dffe_1 : decode cJ6_valueOf_2dffe 1 = .ok (.bipush (-128), 2) := by decide +kernel
theorem dJ6_valueOf_2dffe_3 : decode cJ6_valueOf_2dffe 3 = .ok (.if_icmp .lt 20, 3) := by decide +kernel
theorem dJ6_valueOf_2dffe_6 : decode cJ6_valueOf_2dffe 6 = .ok (.iload_n 0, 1) := by decide +kernel
theorem dJ6_valueOf_2dffe_7 : decode cJ6_valueOf_2dffe 7 = .ok (.getstatic 191, 3) := by decide +kernel
theorem dJ6_valueOf_2dffe_10 : decode cJ6_valueOf_2dffe 10 = .ok (.if_icmp .gt 13, 3) := by decide +kernel
theorem dJ6_valueOf_2dffe_13 : decode cJ6_valueOf_2dffe 13 = .ok (.getstatic 195, 3) := by decide +kernel
theorem dJ6_valueOf_2dffe_16 : decode cJ6_valueOf_2dffe 16 = .ok (.iload_n 0, 1) := by decide +kernel
theorem dJ6_valueOf_2dffe_17 : decode cJ6_valueOf_2dffe 17 = .ok (.sipush 128, 3) := by decide +kernel
theorem dJ6_valueOf_2dffe_20 : decode cJ6_valueOf_2dffe 20 = .ok (.iadd, 1) := by decide +kernel
theorem dJ6_valueOf_2dffe_21 : decode cJ6_valueOf_2dffe 21 = .ok (.aaload, 1) := by decide +kernel
theorem dJ6_valueOf_2dffe_22 : decode cJ6_valueOf_2dffe 22 = .ok (.areturn, 1) := by decide +kernel
theorem dJ6_valueOf_2dffe_23 : decode cJ6_valueOf_2dffe 23 = .ok (.new 1, 3) := by decide +kernel
theorem dJ6_valueOf_2dffe_26 : decode cJ6_valueOf_2dffe 26 = .ok (.dup, 1) := by decide +kernel
theorem dJ6_valueOf_2dffe_27 : decode cJ6_valueOf_2dffe 27 = .ok (.iload_n 0, 1) := by decide +kernel
theorem dJ6_valueOf_2dffe_28 : decode cJ6_valueOf_2dffe 28 = .ok (.invokespecial 199, 3) := by decide +kernel
theorem dJ6_valueOf_2dffe_31 : decode cJ6_valueOf_2dffe 31 = .ok (.areturn, 1) := by decide +kernel
set_option maxRecDepth 20000 in
theorem ggJ6_init_d00df_Jxd2413_init_da8c8 : GoodIn wsJ6_init_d00df wsJxd2413_init_da8c8 := goodIn_r _ [5, 6, 7, 8] (by decide +kernel) (by decide +kernel)
set_option maxRecDepth 20000 in
theorem gJ6_init_d00df_Jxd2413_init_da8c8 : GoodIn wsJ6_init_d00df (wsJxd2413_init_da8c8) := ggJ6_init_d00df_Jxd2413_init_da8c8
theorem dJ6_init_d00df_0 : decode cJ6_init_d00df 0 = .ok (.aload_n 0, 1) := by decide +kernel
theorem dJ6_init_d00df_1 : decode cJ6_init_d00df 1 = .ok (.invokespecial 202, 3) := by decide +kernel
theorem dJ6_init_d00df_4 : decode cJ6_init_d00df 4 = .ok (.aload_n 0, 1) := by decide +kernel
theorem dJ6_init_d00df_5 : decode cJ6_init_d00df 5 = .ok (.iload_n 1, 1) := by decide +kernel
theorem dJ6_init_d00df_6 : decode cJ6_init_d00df 6 = .ok (.putfield 205, 3) := by decide +kernel
theorem dJ6_init_d00df_9 : decode cJ6_init_d00df 9 = .ok (.return_, 1) := by decide +kernel
theorem dJ6_intValue_8abf5_0 : decode cJ6_intValue_8abf5 0 = .ok (.aload_n 0, 1) := by decide +kernel
theorem dJ6_intValue_8abf5_1 : decode cJ6_intValue_8abf5 1 = .ok (.getfield 205, 3) := by decide +kernel
theorem dJ6_intValue_8abf5_4 : decode cJ6_intValue_8abf5 4 = .ok (.ireturn, 1) := by decide +kernel
theorem dJ9_abs_0f7a4_0 : decode cJ9_abs_0f7a4 0 = .ok (.iload_n 0, 1) := by decide +kernel
theorem dJ9_abs_0f7a4_1 : decode cJ9_abs_0f7a4 1 = .ok (.ifCond .ge 8, 3) := by decide +kernel
theorem dJ9_abs_0f7a4_4 : decode cJ9_abs_0f7a4 4 = .ok (.iload_n 0, 1) := by decide +kernel
theorem dJ9_abs_0f7a4_5 : decode cJ9_abs_0f7a4 5 = .ok (.ineg, 1) := by decide +kernel
theorem dJ9_abs_0f7a4_6 : decode cJ9_abs_0f7a4 6 = .ok (.goto 4, 3) := by decide +kernel
theorem dJ9_abs_0f7a4_9 : decode cJ9_abs_0f7a4 9 = .ok (.iload_n 0, 1) := by decide +kernel
theorem dJ9_abs_0f7a4_10 : decode cJ9_abs_0f7a4 10 = .ok (.ireturn, 1) := by decide +kernel
theorem dJ9_max_7cf53_0 : decode cJ9_max_7cf53 0 = .ok (.iload_n 0, 1) := by decide +kernel
theorem dJ9_max_7cf53_1 : decode cJ9_max_7cf53 1 = .ok (.iload_n 1, 1) := by decide +kernel
theorem dJ9_max_7cf53_2 : decode cJ9_max_7cf53 2 = .ok (.if_icmp .lt 7, 3) := by decide +kernel
theorem dJ9_max_7cf53_5 : decode cJ9_max_7cf53 5 = .ok (.iload_n 0, 1) := by decide +kernel
theorem dJ9_max_7cf53_6 : decode cJ9_max_7cf53 6 = .ok (.goto 4, 3) := by decide +kernel
theorem dJ9_max_7cf53_9 : decode cJ9_max_7cf53 9 = .ok (.iload_n 1, 1) := by decide +kernel
theorem dJ9_max_7cf53_10 : decode cJ9_max_7cf53 10 = .ok (.ireturn, 1) := by decide +kernel
theorem dJ9_min_7cf53_0 : decode cJ9_min_7cf53 0 = .ok (.iload_n 0, 1) := by decide +kernel
theorem dJ9_min_7cf53_1 : decode cJ9_min_7cf53 1 = .ok (.iload_n 1, 1) := by decide +kernel
theorem dJ9_min_7cf53_2 : decode cJ9_min_7cf53 2 = .ok (.if_icmp .gt 7, 3) := by decide +kernel
theorem dJ9_min_7cf53_5 : decode cJ9_min_7cf53 5 = .ok (.iload_n 0, 1) := by decide +kernel
theorem dJ9_min_7cf53_6 : decode cJ9_min_7cf53 6 = .ok (.goto 4, 3) := by decide +kernel
theorem dJ9_min_7cf53_9 : decode cJ9_min_7cf53 9 = .ok (.iload_n 1, 1) := by decide +kernel
theorem dJ9_min_7cf53_10 : decode cJ9_min_7cf53 10 = .ok (.ireturn, 1) := by decide +kernel
theorem dJxd2413_init_da8c8_0 : decode cJxd2413_init_da8c8 0 = .ok (.aload_n 0, 1) := by decide +kernel
theorem dJxd2413_init_da8c8_1 : decode cJxd2413_init_da8c8 1 = .ok (.invokespecial 1, 3) := by decide +kernel
theorem dJxd2413_init_da8c8_4 : decode cJxd2413_init_da8c8 4 = .ok (.return_, 1) := by decide +kernel
theorem dJxa1e45_init_da8c8_0 : decode cJxa1e45_init_da8c8 0 = .ok (.aload_n 0, 1) := by decide +kernel
theorem dJxa1e45_init_da8c8_1 : decode cJxa1e45_init_da8c8 1 = .ok (.invokespecial 1, 3) := by decide +kernel
theorem dJxa1e45_init_da8c8_4 : decode cJxa1e45_init_da8c8 4 = .ok (.return_, 1) := by decide +kernel
set_option maxRecDepth 20000 in
theorem ggJxc12de_init_da8c8_Jxa1e45_init_da8c8 : GoodIn wsJxc12de_init_da8c8 wsJxa1e45_init_da8c8 := goodIn_r _ [5, 6, 7, 8] (by decide +kernel) (by decide +kernel)
set_option maxRecDepth 20000 in
theorem gJxc12de_init_da8c8_Jxa1e45_init_da8c8 : GoodIn wsJxc12de_init_da8c8 (wsJxa1e45_init_da8c8) := ggJxc12de_init_da8c8_Jxa1e45_init_da8c8
theorem dJxc12de_init_da8c8_0 : decode cJxc12de_init_da8c8 0 = .ok (.aload_n 0, 1) := by decide +kernel
theorem dJxc12de_init_da8c8_1 : decode cJxc12de_init_da8c8 1 = .ok (.invokespecial 1, 3) := by decide +kernel
theorem dJxc12de_init_da8c8_4 : decode cJxc12de_init_da8c8 4 = .ok (.aload_n 0, 1) := by decide +kernel
theorem dJxc12de_init_da8c8_5 : decode cJxc12de_init_da8c8 5 = .ok (.iconst 0, 1) := by decide +kernel
theorem dJxc12de_init_da8c8_6 : decode cJxc12de_init_da8c8 6 = .ok (.putfield 7, 3) := by decide +kernel
theorem dJxc12de_init_da8c8_9 : decode cJxc12de_init_da8c8 9 = .ok (.return_, 1) := by decide +kernel
theorem dJx35411_init_45d68_0 : decode cJx35411_init_45d68 0 = .ok (.aload_n 0, 1) := by decide +kernel
theorem dJx35411_init_45d68_1 : decode cJx35411_init_45d68 1 = .ok (.aload_n 1, 1) := by decide +kernel
theorem dJx35411_init_45d68_2 : decode cJx35411_init_45d68 2 = .ok (.putfield 1, 3) := by decide +kernel
theorem dJx35411_init_45d68_5 : decode cJx35411_init_45d68 5 = .ok (.aload_n 0, 1) := by decide +kernel
theorem dJx35411_init_45d68_6 : decode cJx35411_init_45d68 6 = .ok (.invokespecial 7, 3) := by decide +kernel
theorem dJx35411_init_45d68_9 : decode cJx35411_init_45d68 9 = .ok (.aload_n 0, 1) := by decide +kernel
theorem dJx35411_init_45d68_10 : decode cJx35411_init_45d68 10 = .ok (.iconst (-1), 1) := by decide +kernel
theorem dJx35411_init_45d68_11 : decode cJx35411_init_45d68 11 = .ok (.putfield 13, 3) := by decide +kernel
theorem dJx35411_init_45d68_14 : decode cJx35411_init_45d68 14 = .ok (.aload_n 0, 1) := by decide +kernel
theorem dJx35411_init_45d68_15 : decode cJx35411_init_45d68 15 = .ok (.aload_n 0, 1) := by decide +kernel
theorem dJx35411_init_45d68_16 : decode cJx35411_init_45d68 16 = .ok (.getfield 1, 3) := by decide +kernel
theorem dJx35411_init_45d68_19 : decode cJx35411_init_45d68 19 = .ok (.getfield 17, 3) := by decide +kernel
theorem dJx35411_init_45d68_22 : decode cJx35411_init_45d68 22 = .ok (.putfield 22, 3) := by decide +kernel
theorem dJx35411_init_45d68_25 : decode cJx35411_init_45d68 25 = .ok (.return_, 1) := by decide +kernel
theorem dJx35411_hasNext_aae02_0 : decode cJx35411_hasNext_aae02 0 = .ok (.aload_n 0, 1) := by decide +kernel
theorem dJx35411_hasNext_aae02_1 : decode cJx35411_hasNext_aae02 1 = .ok (.getfield 25, 3) := by decide +kernel
theorem dJx35411_hasNext_aae02_4 : decode cJx35411_hasNext_aae02 4 = .ok (.aload_n 0, 1) := by decide +kernel
theorem dJx35411_hasNext_aae02_5 : decode cJx35411_hasNext_aae02 5 = .ok (.getfield 1, 3) := by decide +kernel
theorem dJx35411_hasNext_aae02_8 : decode cJx35411_hasNext_aae02 8 = .ok (.getfield 28, 3) := by decide +kernel
theorem dJx35411_hasNext_aae02_11 : decode cJx35411_hasNext_aae02 11 = .ok (.if_icmp .eq 7, 3) := by decide +kernel
theorem dJx35411_hasNext_aae02_14 : decode cJx35411_hasNext_aae02 14 = .ok (.iconst 1, 1) := by decide +kernel
theorem dJx35411_hasNext_aae02_15 : decode cJx35411_hasNext_aae02 15 = .ok (.goto 4, 3) := by decide +kernel
theorem dJx35411_hasNext_aae02_18 : decode cJx35411_hasNext_aae02 18 = .ok (.iconst 0, 1) := by decide +kernel
theorem dJx35411_hasNext_aae02_19 : decode cJx35411_hasNext_aae02 19 = .ok (.ireturn, 1) := by decide +kernel
set_option maxRecDepth 20000 in
theorem ggJx35411_next_0502b_Jx35411_checkForComodification_da8c8 : GoodIn wsJx35411_next_0502b wsJx35411_checkForComodification_da8c8 := goodIn_r _ [9, 2, 10, 11, 12, 13, 14, 15, 16, 17, 18, 19] (by decide +kernel) (by decide +kernel)
set_option maxRecDepth 20000 in
theorem gJx35411_next_0502b_Jx35411_checkForComodification_da8c8 : GoodIn wsJx35411_next_0502b (wsV RJx35411 31 RJx35411 yJx35411_checkForComodification_da8c8 wsJx35411_checkForComodification_da8c8) := goodIn_app (goodIn_of _ (by decide +kernel)) ggJx35411_next_0502b_Jx35411_checkForComodification_da8c8
theorem dJx35411_next_0502b_0 : decode cJx35411_next_0502b 0 = .ok (.aload_n 0, 1) := by decide +kernel
theorem dJx35411_next_0502b_1 : decode cJx35411_next_0502b 1 = .ok (.invokevirtual 31, 3) := by decide +kernel
theorem dJx35411_next_0502b_4 : decode cJx35411_next_0502b 4 = .ok (.aload_n 0, 1) := by decide +kernel
theorem dJx35411_next_0502b_5 : decode cJx35411_next_0502b 5 = .ok (.getfield 25, 3) := by decide +kernel
theorem dJx35411_next_0502b_8 : decode cJx35411_next_0502b 8 = .ok (.istore_n 1, 1) := by decide +kernel
theorem dJx35411_next_0502b_9 : decode cJx35411_next_0502b 9 = .ok (.iload_n 1, 1) := by decide +kernel
theorem dJx35411_next_0502b_10 : decode cJx35411_next_0502b 10 = .ok (.aload_n 0, 1) := by decide +kernel
theorem dJx35411_next_0502b_11 : decode cJx35411_next_0502b 11 = .ok (.getfield 1, 3) := by decide +kernel
theorem dJx35411_next_0502b_14 : decode cJx35411_next_0502b 14 = .ok (.getfield 28, 3) := by decide +kernel
theorem dJx35411_next_0502b_17 : decode cJx35411_next_0502b 17 = .ok (.if_icmp .lt 11, 3) := by decide +kernel
theorem dJx35411_next_0502b_20 : decode cJx35411_next_0502b 20 = .ok (.new 34, 3) := by decide +kernel
theorem dJx35411_next_0502b_23 : decode cJx35411_next_0502b 23 = .ok (.dup, 1) := by decide +kernel
theorem dJx35411_next_0502b_24 : decode cJx35411_next_0502b 24 = .ok (.invokespecial 36, 3) := by decide +kernel
theorem dJx35411_next_0502b_27 : decode cJx35411_next_0502b 27 = .ok (.athrow, 1) := by decide +kernel
theorem dJx35411_next_0502b_28 : decode cJx35411_next_0502b 28 = .ok (.aload_n 0, 1) := by decide +kernel
theorem dJx35411_next_0502b_29 : decode cJx35411_next_0502b 29 = .ok (.getfield 1, 3) := by decide +kernel
theorem dJx35411_next_0502b_32 : decode cJx35411_next_0502b 32 = .ok (.getfield 37, 3) := by decide +kernel
theorem dJx35411_next_0502b_35 : decode cJx35411_next_0502b 35 = .ok (.astore_n 2, 1) := by decide +kernel
theorem dJx35411_next_0502b_36 : decode cJx35411_next_0502b 36 = .ok (.iload_n 1, 1) := by decide +kernel
theorem dJx35411_next_0502b_37 : decode cJx35411_next_0502b 37 = .ok (.aload_n 2, 1) := by decide +kernel
theorem dJx35411_next_0502b_38 : decode cJx35411_next_0502b 38 = .ok (.arraylength, 1) := by decide +kernel
theorem dJx35411_next_0502b_39 : decode cJx35411_next_0502b 39 = .ok (.if_icmp .lt 11, 3) := by decide +kernel
theorem dJx35411_next_0502b_42 : decode cJx35411_next_0502b 42 = .ok (.new 41, 3) := by decide +kernel
theorem dJx35411_next_0502b_45 : decode cJx35411_next_0502b 45 = .ok (.dup, 1) := by decide +kernel
theorem dJx35411_next_0502b_46 : decode cJx35411_next_0502b 46 = .ok (.invokespecial 43, 3) := by decide +kernel
theorem dJx35411_next_0502b_49 : decode cJx35411_next_0502b 49 = .ok (.athrow, 1) := by decide +kernel
theorem dJx35411_next_0502b_50 : decode cJx35411_next_0502b 50 = .ok (.aload_n 0, 1) := by decide +kernel
theorem dJx35411_next_0502b_51 : decode cJx35411_next_0502b 51 = .ok (.iload_n 1, 1) := by decide +kernel
theorem dJx35411_next_0502b_52 : decode cJx35411_next_0502b 52 = .ok (.iconst 1, 1) := by decide +kernel
theorem dJx35411_next_0502b_53 : decode cJx35411_next_0502b 53 = .ok (.iadd, 1) := by decide +kernel
theorem dJx35411_next_0502b_54 : decode cJx35411_next_0502b 54 = .ok (.putfield 25, 3) := by decide +kernel
theorem dJx35411_next_0502b_57 : decode cJx35411_next_0502b 57 = .ok (.aload_n 2, 1) := by decide +kernel
theorem dJx35411_next_0502b_58 : decode cJx35411_next_0502b 58 = .ok (.aload_n 0, 1) := by decide +kernel
theorem dJx35411_next_0502b_59 : decode cJx35411_next_0502b 59 = .ok (.iload_n 1, 1) := by decide +kernel
theorem dJx35411_next_0502b_60 : decode cJx35411_next_0502b 60 = .ok (.dup_x1, 1) := by decide +kernel
theorem dJx35411_next_0502b_61 : decode cJx35411_next_0502b 61 = .ok (.putfield 13, 3) := by decide +kernel
theorem dJx35411_next_0502b_64 : decode cJx35411_next_0502b 64 = .ok (.aaload, 1) := by decide +kernel
theorem dJx35411_next_0502b_65 : decode cJx35411_next_0502b 65 = .ok (.areturn, 1) := by decide +kernel
theorem dJx35411_checkForComodification_da8c8_0 : decode cJx35411_checkForComodification_da8c8 0 = .ok (.aload_n 0, 1) := by decide +kernel
theorem dJx35411_checkForComodification_da8c8_1 : decode cJx35411_checkForComodification_da8c8 1 = .ok (.getfield 1, 3) := by decide +kernel
theorem dJx35411_checkForComodification_da8c8_4 : decode cJx35411_checkForComodification_da8c8 4 = .ok (.getfield 17, 3) := by decide +kernel
theorem dJx35411_checkForComodification_da8c8_7 : decode cJx35411_checkForComodification_da8c8 7 = .ok (.aload_n 0, 1) := by decide +kernel
theorem dJx35411_checkForComodification_da8c8_8 : decode cJx35411_checkForComodification_da8c8 8 = .ok (.getfield 22, 3) := by decide +kernel
theorem dJx35411_checkForComodification_da8c8_11 : decode cJx35411_checkForComodification_da8c8 11 = .ok (.if_icmp .eq 11, 3) := by decide +kernel
theorem dJx35411_checkForComodification_da8c8_14 : decode cJx35411_checkForComodification_da8c8 14 = .ok (.new 41, 3) := by decide +kernel
theorem dJx35411_checkForComodification_da8c8_17 : decode cJx35411_checkForComodification_da8c8 17 = .ok (.dup, 1) := by decide +kernel
theorem dJx35411_checkForComodification_da8c8_18 : decode cJx35411_checkForComodification_da8c8 18 = .ok (.invokespecial 43, 3) := by decide +kernel
theorem dJx35411_checkForComodification_da8c8_21 : decode cJx35411_checkForComodification_da8c8 21 = .ok (.athrow, 1) := by decide +kernel
theorem dJx35411_checkForComodification_da8c8_22 : decode cJx35411_checkForComodification_da8c8 22 = .ok (.return_, 1) := by decide +kernel
set_option maxRecDepth 20000 in
theorem ggJx4a65c_init_da8c8_Jxc12de_init_da8c8 : GoodIn wsJx4a65c_init_da8c8 wsJxc12de_init_da8c8 := goodIn_r _ [6, 7, 8, 9, 10, 11, 12, 13, 14, 15, 16, 17] (by decide +kernel) (by decide +kernel)
set_option maxRecDepth 20000 in
theorem gJx4a65c_init_da8c8_Jxc12de_init_da8c8 : GoodIn wsJx4a65c_init_da8c8 (wsJxc12de_init_da8c8) := ggJx4a65c_init_da8c8_Jxc12de_init_da8c8
theorem dJx4a65c_init_da8c8_0 : decode cJx4a65c_init_da8c8 0 = .ok (.aload_n 0, 1) := by decide +kernel
theorem dJx4a65c_init_da8c8_1 : decode cJx4a65c_init_da8c8 1 = .ok (.invokespecial 1, 3) := by decide +kernel
theorem dJx4a65c_init_da8c8_4 : decode cJx4a65c_init_da8c8 4 = .ok (.aload_n 0, 1) := by decide +kernel
theorem dJx4a65c_init_da8c8_5 : decode cJx4a65c_init_da8c8 5 = .ok (.getstatic 39, 3) := by decide +kernel
theorem dJx4a65c_init_da8c8_8 : decode cJx4a65c_init_da8c8 8 = .ok (.putfield 9, 3) := by decide +kernel
theorem dJx4a65c_init_da8c8_11 : decode cJx4a65c_init_da8c8 11 = .ok (.return_, 1) := by decide +kernel
set_option maxRecDepth 20000 in
theorem ggJx4a65c_grow_92f84_J8_newLength_cabcc : GoodIn wsJx4a65c_grow_92f84 wsJ8_newLength_cabcc := goodIn_r _ [11, 12, 4, 5, 6, 13, 14, 15, 10, 16] (by decide +kernel) (by decide +kernel)
set_option maxRecDepth 20000 in
theorem gJx4a65c_grow_92f84_J8_newLength_cabcc : GoodIn wsJx4a65c_grow_92f84 (va_wsS RJx4a65c 73 yJ8_newLength_cabcc wsJ8_newLength_cabcc) := goodIn_app (goodIn_of _ (by decide +kernel)) ggJx4a65c_grow_92f84_J8_newLength_cabcc
set_option maxRecDepth 20000 in
theorem ggJx4a65c_grow_92f84_J7_copyOf_1904c : GoodIn wsJx4a65c_grow_92f84 wsJ7_copyOf_1904c := goodIn_r _ [20, 21, 22, 23, 24, 25, 26, 19, 27, 28, 29, 30, 31, 5, 32, 33, 34, 35, 36] (by decide +kernel) (by decide +kernel)
set_option maxRecDepth 20000 in
theorem gJx4a65c_grow_92f84_J7_copyOf_1904c : GoodIn wsJx4a65c_grow_92f84 (va_wsS RJx4a65c 66 yJ7_copyOf_1904c wsJ7_copyOf_1904c) := goodIn_app (goodIn_of _ (by decide +kernel)) ggJx4a65c_grow_92f84_J7_copyOf_1904c
theorem dJx4a65c_grow_92f84_0 : decode cJx4a65c_grow_92f84 0 = .ok (.aload_n 0, 1) := by decide +kernel
theorem dJx4a65c_grow_92f84_1 : decode cJx4a65c_grow_92f84 1 = .ok (.getfield 9, 3) := by decide +kernel
theorem dJx4a65c_grow_92f84_4 : decode cJx4a65c_grow_92f84 4 = .ok (.arraylength, 1) := by decide +kernel
theorem dJx4a65c_grow_92f84_5 : decode cJx4a65c_grow_92f84 5 = .ok (.istore_n 2, 1) := by decide +kernel
theorem dJx4a65c_grow_92f84_6 : decode cJx4a65c_grow_92f84 6 = .ok (.iload_n 2, 1) := by decide +kernel
theorem dJx4a65c_grow_92f84_7 : decode cJx4a65c_grow_92f84 7 = .ok (.ifCond .gt 13, 3) := by decide +kernel
theorem dJx4a65c_grow_92f84_10 : decode cJx4a65c_grow_92f84 10 = .ok (.aload_n 0, 1) := by decide +kernel
theorem dJx4a65c_grow_92f84_11 : decode cJx4a65c_grow_92f84 11 = .ok (.getfield 9, 3) := by decide +kernel
theorem dJx4a65c_grow_92f84_14 : decode cJx4a65c_grow_92f84 14 = .ok (.getstatic 39, 3) := by decide +kernel
theorem dJx4a65c_grow_92f84_17 : decode cJx4a65c_grow_92f84 17 = .ok (.if_acmp .eq 28, 3) := by decide +kernel
theorem dJx4a65c_grow_92f84_20 : decode cJx4a65c_grow_92f84 20 = .ok (.iload_n 2, 1) := by decide +kernel
theorem dJx4a65c_grow_92f84_21 : decode cJx4a65c_grow_92f84 21 = .ok (.iload_n 1, 1) := by decide +kernel
theorem dJx4a65c_grow_92f84_22 : decode cJx4a65c_grow_92f84 22 = .ok (.iload_n 2, 1) := by decide +kernel
theorem dJx4a65c_grow_92f84_23 : decode cJx4a65c_grow_92f84 23 = .ok (.isub, 1) := by decide +kernel
theorem dJx4a65c_grow_92f84_24 : decode cJx4a65c_grow_92f84 24 = .ok (.iload_n 2, 1) := by decide +kernel
theorem dJx4a65c_grow_92f84_25 : decode cJx4a65c_grow_92f84 25 = .ok (.iconst 1, 1) := by decide +kernel
theorem dJx4a65c_grow_92f84_26 : decode cJx4a65c_grow_92f84 26 = .ok (.ishr, 1) := by decide +kernel
theorem dJx4a65c_grow_92f84_27 : decode cJx4a65c_grow_92f84 27 = .ok (.invokestatic 73, 3) := by decide +kernel
theorem dJx4a65c_grow_92f84_30 : decode cJx4a65c_grow_92f84 30 = .ok (.istore_n 3, 1) := by decide +kernel
theorem dJx4a65c_grow_92f84_31 : decode cJx4a65c_grow_92f84 31 = .ok (.aload_n 0, 1) := by decide +kernel
theorem dJx4a65c_grow_92f84_32 : decode cJx4a65c_grow_92f84 32 = .ok (.aload_n 0, 1) := by decide +kernel
theorem dJx4a65c_grow_92f84_33 : decode cJx4a65c_grow_92f84 33 = .ok (.getfield 9, 3) := by decide +kernel
theorem dJx4a65c_grow_92f84_36 : decode cJx4a65c_grow_92f84 36 = .ok (.iload_n 3, 1) := by decide +kernel
theorem dJx4a65c_grow_92f84_37 : decode cJx4a65c_grow_92f84 37 = .ok (.invokestatic 66, 3) := by decide +kernel
theorem dJx4a65c_grow_92f84_40 : decode cJx4a65c_grow_92f84 40 = .ok (.dup_x1, 1) := by decide +kernel
theorem dJx4a65c_grow_92f84_41 : decode cJx4a65c_grow_92f84 41 = .ok (.putfield 9, 3) := by decide +kernel
theorem dJx4a65c_grow_92f84_44 : decode cJx4a65c_grow_92f84 44 = .ok (.areturn, 1) := by decide +kernel
theorem dJx4a65c_grow_92f84_45 : decode cJx4a65c_grow_92f84 45 = .ok (.aload_n 0, 1) := by decide +kernel
theorem dJx4a65c_grow_92f84_46 : decode cJx4a65c_grow_92f84 46 = .ok (.bipush 10, 2) := by decide +kernel
theorem dJx4a65c_grow_92f84_48 : decode cJx4a65c_grow_92f84 48 = .ok (.iload_n 1, 1) := by decide +kernel
theorem dJx4a65c_grow_92f84_49 : decode cJx4a65c_grow_92f84 49 = .ok (.invokestatic 79, 3) := by decide +kernel
theorem dJx4a65c_grow_92f84_52 : decode cJx4a65c_grow_92f84 52 = .ok (.anewarray 7, 3) := by decide +kernel
theorem dJx4a65c_grow_92f84_55 : decode cJx4a65c_grow_92f84 55 = .ok (.dup_x1, 1) := by decide +kernel
theorem dJx4a65c_grow_92f84_56 : decode cJx4a65c_grow_92f84 56 = .ok (.putfield 9, 3) := by decide +kernel
theorem dJx4a65c_grow_92f84_59 : decode cJx4a65c_grow_92f84 59 = .ok (.areturn, 1) := by decide +kernel
set_option maxRecDepth 20000 in
theorem ggJx4a65c_grow_d5877_Jx4a65c_grow_92f84 : GoodIn wsJx4a65c_grow_d5877 wsJx4a65c_grow_92f84 := goodIn_r _ [6, 7, 8, 9, 10, 11, 12, 13, 14, 15, 16, 17, 18, 19, 20, 21, 22, 23, 24, 25, 26, 27, 28, 29, 30, 31, 32, 33, 34, 35, 36, 37, 38, 39, 40, 41, 42, 43, 44, 45] (by decide +kernel) (by decide +kernel)
set_option maxRecDepth 20000 in
theorem gJx4a65c_grow_d5877_Jx4a65c_grow_92f84 : GoodIn wsJx4a65c_grow_d5877 (wsV RJx4a65c 69 RJx4a65c yJx4a65c_grow_92f84 wsJx4a65c_grow_92f84) := goodIn_app (goodIn_of _ (by decide +kernel)) ggJx4a65c_grow_d5877_Jx4a65c_grow_92f84
theorem dJx4a65c_grow_d5877_0 : decode cJx4a65c_grow_d5877 0 = .ok (.aload_n 0, 1) := by decide +kernel
theorem dJx4a65c_grow_d5877_1 : decode cJx4a65c_grow_d5877 1 = .ok (.aload_n 0, 1) := by decide +kernel
theorem dJx4a65c_grow_d5877_2 : decode cJx4a65c_grow_d5877 2 = .ok (.getfield 48, 3) := by decide +kernel
theorem dJx4a65c_grow_d5877_5 : decode cJx4a65c_grow_d5877 5 = .ok (.iconst 1, 1) := by decide +kernel
theorem dJx4a65c_grow_d5877_6 : decode cJx4a65c_grow_d5877 6 = .ok (.iadd, 1) := by decide +kernel
theorem dJx4a65c_grow_d5877_7 : decode cJx4a65c_grow_d5877 7 = .ok (.invokevirtual 69, 3) := by decide +kernel
theorem dJx4a65c_grow_d5877_10 : decode cJx4a65c_grow_d5877 10 = .ok (.areturn, 1) := by decide +kernel
theorem dJx4a65c_size_8abf5_0 : decode cJx4a65c_size_8abf5 0 = .ok (.aload_n 0, 1) := by decide +kernel
theorem dJx4a65c_size_8abf5_1 : decode cJx4a65c_size_8abf5 1 = .ok (.getfield 48, 3) := by decide +kernel
theorem dJx4a65c_size_8abf5_4 : decode cJx4a65c_size_8abf5 4 = .ok (.ireturn, 1) := by decide +kernel
theorem dJx4a65c_isEmpty_aae02_0 : decode cJx4a65c_isEmpty_aae02 0 = .ok (.aload_n 0, 1) := by decide +kernel
theorem dJx4a65c_isEmpty_aae02_1 : decode cJx4a65c_isEmpty_aae02 1 = .ok (.getfield 48, 3) := by decide +kernel
theorem dJx4a65c_isEmpty_aae02_4 : decode cJx4a65c_isEmpty_aae02 4 = .ok (.ifCond .ne 7, 3) := by decide +kernel
theorem dJx4a65c_isEmpty_aae02_7 : decode cJx4a65c_isEmpty_aae02 7 = .ok (.iconst 1, 1) := by decide +kernel
theorem dJx4a65c_isEmpty_aae02_8 : decode cJx4a65c_isEmpty_aae02 8 = .ok (.goto 4, 3) := by decide +kernel
theorem dJx4a65c_isEmpty_aae02_11 : decode cJx4a65c_isEmpty_aae02 11 = .ok (.iconst 0, 1) := by decide +kernel
theorem dJx4a65c_isEmpty_aae02_12 : decode cJx4a65c_isEmpty_aae02 12 = .ok (.ireturn, 1) := by decide +kernel
set_option maxRecDepth 20000 in
theorem ggJx4a65c_toArray_d5877_J7_copyOf_1904c : GoodIn wsJx4a65c_toArray_d5877 wsJ7_copyOf_1904c := goodIn_r _ [6, 7, 8, 9, 10, 11, 12, 5, 13, 14, 15, 16, 17, 18, 19, 20, 21, 22, 23] (by decide +kernel) (by decide +kernel)
set_option maxRecDepth 20000 in
theorem gJx4a65c_toArray_d5877_J7_copyOf_1904c : GoodIn wsJx4a65c_toArray_d5877 (va_wsS RJx4a65c 66 yJ7_copyOf_1904c wsJ7_copyOf_1904c) := goodIn_app (goodIn_of _ (by decide +kernel)) ggJx4a65c_toArray_d5877_J7_copyOf_1904c
theorem dJx4a65c_toArray_d5877_0 : decode cJx4a65c_toArray_d5877 0 = .ok (.aload_n 0, 1) := by decide +kernel
theorem dJx4a65c_toArray_d5877_1 : decode cJx4a65c_toArray_d5877 1 = .ok (.getfield 9, 3) := by decide +kernel
theorem dJx4a65c_toArray_d5877_4 : decode cJx4a65c_toArray_d5877 4 = .ok (.aload_n 0, 1) := by decide +kernel
theorem dJx4a65c_toArray_d5877_5 : decode cJx4a65c_toArray_d5877 5 = .ok (.getfield 48, 3) := by decide +kernel
theorem dJx4a65c_toArray_d5877_8 : decode cJx4a65c_toArray_d5877 8 = .ok (.invokestatic 66, 3) := by decide +kernel
theorem dJx4a65c_toArray_d5877_11 : decode cJx4a65c_toArray_d5877 11 = .ok (.areturn, 1) := by decide +kernel
theorem dJx4a65c_elementData_915e3_0 : decode cJx4a65c_elementData_915e3 0 = .ok (.aload_n 0, 1) := by decide +kernel
theorem dJx4a65c_elementData_915e3_1 : decode cJx4a65c_elementData_915e3 1 = .ok (.getfield 9, 3) := by decide +kernel
theorem dJx4a65c_elementData_915e3_4 : decode cJx4a65c_elementData_915e3 4 = .ok (.iload_n 1, 1) := by decide +kernel
theorem dJx4a65c_elementData_915e3_5 : decode cJx4a65c_elementData_915e3 5 = .ok (.aaload, 1) := by decide +kernel
theorem dJx4a65c_elementData_915e3_6 : decode cJx4a65c_elementData_915e3 6 = .ok (.areturn, 1) := by decide +kernel
set_option maxRecDepth 20000 in
theorem ggJx4a65c_get_915e3_J15_checkIndex_7cf53 : GoodIn wsJx4a65c_get_915e3 wsJ15_checkIndex_7cf53 := goodIn_r _ [5, 6, 7, 8, 9] (by decide +kernel) (by decide +kernel)
set_option maxRecDepth 20000 in
theorem gJx4a65c_get_915e3_J15_checkIndex_7cf53 : GoodIn wsJx4a65c_get_915e3 (va_wsS RJx4a65c 118 yJ15_checkIndex_7cf53 wsJ15_checkIndex_7cf53) := goodIn_app (goodIn_of _ (by decide +kernel)) ggJx4a65c_get_915e3_J15_checkIndex_7cf53
set_option maxRecDepth 20000 in
theorem ggJx4a65c_get_915e3_Jx4a65c_elementData_915e3 : GoodIn wsJx4a65c_get_915e3 wsJx4a65c_elementData_915e3 := goodIn_r _ [14, 15, 16, 17, 18] (by decide +kernel) (by decide +kernel)
set_option maxRecDepth 20000 in
theorem gJx4a65c_get_915e3_Jx4a65c_elementData_915e3 : GoodIn wsJx4a65c_get_915e3 (wsV RJx4a65c 123 RJx4a65c yJx4a65c_elementData_915e3 wsJx4a65c_elementData_915e3) := goodIn_app (goodIn_of _ (by decide +kernel)) ggJx4a65c_get_915e3_Jx4a65c_elementData_915e3
theorem dJx4a65c_get_915e3_0 : decode cJx4a65c_get_915e3 0 = .ok (.iload_n 1, 1) := by decide +kernel
theorem dJx4a65c_get_915e3_1 : decode cJx4a65c_get_915e3 1 = .ok (.aload_n 0, 1) := by decide +kernel
theorem dJx4a65c_get_915e3_2 : decode cJx4a65c_get_915e3 2 = .ok (.getfield 48, 3) := by decide +kernel
theorem dJx4a65c_get_915e3_5 : decode cJx4a65c_get_915e3 5 = .ok (.invokestatic 118, 3) := by decide +kernel
theorem dJx4a65c_get_915e3_8 : decode cJx4a65c_get_915e3 8 = .ok (.pop, 1) := by decide +kernel
theorem dJx4a65c_get_915e3_9 : decode cJx4a65c_get_915e3 9 = .ok (.aload_n 0, 1) := by decide +kernel
theorem dJx4a65c_get_915e3_10 : decode cJx4a65c_get_915e3 10 = .ok (.iload_n 1, 1) := by decide +kernel
theorem dJx4a65c_get_915e3_11 : decode cJx4a65c_get_915e3 11 = .ok (.invokevirtual 123, 3) := by decide +kernel
theorem dJx4a65c_get_915e3_14 : decode cJx4a65c_get_915e3 14 = .ok (.areturn, 1) := by decide +kernel
set_option maxRecDepth 20000 in
theorem ggJx4a65c_set_bcc79_J15_checkIndex_7cf53 : GoodIn wsJx4a65c_set_bcc79 wsJ15_checkIndex_7cf53 := goodIn_r _ [6, 7, 8, 9, 10] (by decide +kernel) (by decide +kernel)
set_option maxRecDepth 20000 in
theorem gJx4a65c_set_bcc79_J15_checkIndex_7cf53 : GoodIn wsJx4a65c_set_bcc79 (va_wsS RJx4a65c 118 yJ15_checkIndex_7cf53 wsJ15_checkIndex_7cf53) := goodIn_app (goodIn_of _ (by decide +kernel)) ggJx4a65c_set_bcc79_J15_checkIndex_7cf53
set_option maxRecDepth 20000 in
theorem ggJx4a65c_set_bcc79_Jx4a65c_elementData_915e3 : GoodIn wsJx4a65c_set_bcc79 wsJx4a65c_elementData_915e3 := goodIn_r _ [15, 2, 16, 17, 18] (by decide +kernel) (by decide +kernel)
set_option maxRecDepth 20000 in
theorem gJx4a65c_set_bcc79_Jx4a65c_elementData_915e3 : GoodIn wsJx4a65c_set_bcc79 (wsV RJx4a65c 123 RJx4a65c yJx4a65c_elementData_915e3 wsJx4a65c_elementData_915e3) := goodIn_app (goodIn_of _ (by decide +kernel)) ggJx4a65c_set_bcc79_Jx4a65c_elementData_915e3
theorem dJx4a65c_set_bcc79_0 : decode cJx4a65c_set_bcc79 0 = .ok (.iload_n 1, 1) := by decide +kernel
theorem dJx4a65c_set_bcc79_1 : decode cJx4a65c_set_bcc79 1 = .ok (.aload_n 0, 1) := by decide +kernel
theorem dJx4a65c_set_bcc79_2 : decode cJx4a65c_set_bcc79 2 = .ok (.getfield 48, 3) := by decide +kernel
theorem dJx4a65c_set_bcc79_5 : decode cJx4a65c_set_bcc79 5 = .ok (.invokestatic 118, 3) := by decide +kernel
theorem dJx4a65c_set_bcc79_8 : decode cJx4a65c_set_bcc79 8 = .ok (.pop, 1) := by decide +kernel
theorem dJx4a65c_set_bcc79_9 : decode cJx4a65c_set_bcc79 9 = .ok (.aload_n 0, 1) := by decide +kernel
theorem dJx4a65c_set_bcc79_10 : decode cJx4a65c_set_bcc79 10 = .ok (.iload_n 1, 1) := by decide +kernel
theorem dJx4a65c_set_bcc79_11 : decode cJx4a65c_set_bcc79 11 = .ok (.invokevirtual 123, 3) := by decide +kernel
theorem dJx4a65c_set_bcc79_14 : decode cJx4a65c_set_bcc79 14 = .ok (.astore_n 3, 1) := by decide +kernel
theorem dJx4a65c_set_bcc79_15 : decode cJx4a65c_set_bcc79 15 = .ok (.aload_n 0, 1) := by decide +kernel
theorem dJx4a65c_set_bcc79_16 : decode cJx4a65c_set_bcc79 16 = .ok (.getfield 9, 3) := by decide +kernel
theorem dJx4a65c_set_bcc79_19 : decode cJx4a65c_set_bcc79 19 = .ok (.iload_n 1, 1) := by decide +kernel
theorem dJx4a65c_set_bcc79_20 : decode cJx4a65c_set_bcc79 20 = .ok (.aload_n 2, 1) := by decide +kernel
theorem dJx4a65c_set_bcc79_21 : decode cJx4a65c_set_bcc79 21 = .ok (.aastore, 1) := by decide +kernel
theorem dJx4a65c_set_bcc79_22 : decode cJx4a65c_set_bcc79 22 = .ok (.aload_n 3, 1) := by decide +kernel
theorem dJx4a65c_set_bcc79_23 : decode cJx4a65c_set_bcc79 23 = .ok (.areturn, 1) := by decide +kernel
set_option maxRecDepth 20000 in
theorem ggJx4a65c_add_72be8_Jx4a65c_grow_d5877 : GoodIn wsJx4a65c_add_72be8 wsJx4a65c_grow_d5877 := goodIn_r _ [6, 1, 7, 8, 9, 5, 10, 11, 12, 13, 14, 15, 16, 17, 18, 19, 20, 21, 22, 23, 24, 25, 26, 27, 28, 29, 30, 31, 32, 33, 34, 35, 36, 37, 38, 39, 40, 41, 42, 43, 44, 45, 46, 47, 48, 49] (by decide +kernel) (by decide +kernel)
set_option maxRecDepth 20000 in
theorem gJx4a65c_add_72be8_Jx4a65c_grow_d5877 : GoodIn wsJx4a65c_add_72be8 (wsV RJx4a65c 129 RJx4a65c yJx4a65c_grow_d5877 wsJx4a65c_grow_d5877) := goodIn_app (goodIn_of _ (by decide +kernel)) ggJx4a65c_add_72be8_Jx4a65c_grow_d5877
theorem dJx4a65c_add_72be8_0 : decode cJx4a65c_add_72be8 0 = .ok (.iload_n 3, 1) := by decide +kernel
theorem dJx4a65c_add_72be8_1 : decode cJx4a65c_add_72be8 1 = .ok (.aload_n 2, 1) := by decide +kernel
theorem dJx4a65c_add_72be8_2 : decode cJx4a65c_add_72be8 2 = .ok (.arraylength, 1) := by decide +kernel
theorem dJx4a65c_add_72be8_3 : decode cJx4a65c_add_72be8 3 = .ok (.if_icmp .ne 8, 3) := by decide +kernel
theorem dJx4a65c_add_72be8_6 : decode cJx4a65c_add_72be8 6 = .ok (.aload_n 0, 1) := by decide +kernel
theorem dJx4a65c_add_72be8_7 : decode cJx4a65c_add_72be8 7 = .ok (.invokevirtual 129, 3) := by decide +kernel
theorem dJx4a65c_add_72be8_10 : decode cJx4a65c_add_72be8 10 = .ok (.astore_n 2, 1) := by decide +kernel
theorem dJx4a65c_add_72be8_11 : decode cJx4a65c_add_72be8 11 = .ok (.aload_n 2, 1) := by decide +kernel
theorem dJx4a65c_add_72be8_12 : decode cJx4a65c_add_72be8 12 = .ok (.iload_n 3, 1) := by decide +kernel
theorem dJx4a65c_add_72be8_13 : decode cJx4a65c_add_72be8 13 = .ok (.aload_n 1, 1) := by decide +kernel
theorem dJx4a65c_add_72be8_14 : decode cJx4a65c_add_72be8 14 = .ok (.aastore, 1) := by decide +kernel
theorem dJx4a65c_add_72be8_15 : decode cJx4a65c_add_72be8 15 = .ok (.aload_n 0, 1) := by decide +kernel
theorem dJx4a65c_add_72be8_16 : decode cJx4a65c_add_72be8 16 = .ok (.iload_n 3, 1) := by decide +kernel
theorem dJx4a65c_add_72be8_17 : decode cJx4a65c_add_72be8 17 = .ok (.iconst 1, 1) := by decide +kernel
theorem dJx4a65c_add_72be8_18 : decode cJx4a65c_add_72be8 18 = .ok (.iadd, 1) := by decide +kernel
theorem dJx4a65c_add_72be8_19 : decode cJx4a65c_add_72be8 19 = .ok (.putfield 48, 3) := by decide +kernel
theorem dJx4a65c_add_72be8_22 : decode cJx4a65c_add_72be8 22 = .ok (.return_, 1) := by decide +kernel
set_option maxRecDepth 20000 in
theorem ggJx4a65c_add_9ea2d_Jx4a65c_add_72be8 : GoodIn wsJx4a65c_add_9ea2d wsJx4a65c_add_72be8 := goodIn_r _ [9, 4, 10, 11, 12, 8, 13, 14, 15, 16, 17, 3, 18, 19, 20, 21, 22, 23, 24, 25, 26, 27, 28, 29, 30, 31, 32, 33, 34, 35, 36, 37, 38, 39, 40, 41, 42, 43, 44, 45, 46, 47, 48, 49, 50, 51, 52, 53, 54, 55] (by decide +kernel) (by decide +kernel)
set_option maxRecDepth 20000 in
theorem gJx4a65c_add_9ea2d_Jx4a65c_add_72be8 : GoodIn wsJx4a65c_add_9ea2d (wsV RJx4a65c 131 RJx4a65c yJx4a65c_add_72be8 wsJx4a65c_add_72be8) := goodIn_app (goodIn_of _ (by decide +kernel)) ggJx4a65c_add_9ea2d_Jx4a65c_add_72be8
theorem dJx4a65c_add_9ea2d_0 : decode cJx4a65c_add_9ea2d 0 = .ok (.aload_n 0, 1) := by decide +kernel
theorem dJx4a65c_add_9ea2d_1 : decode cJx4a65c_add_9ea2d 1 = .ok (.dup, 1) := by decide +kernel
theorem dJx4a65c_add_9ea2d_2 : decode cJx4a65c_add_9ea2d 2 = .ok (.getfield 63, 3) := by decide +kernel
theorem dJx4a65c_add_9ea2d_5 : decode cJx4a65c_add_9ea2d 5 = .ok (.iconst 1, 1) := by decide +kernel
theorem dJx4a65c_add_9ea2d_6 : decode cJx4a65c_add_9ea2d 6 = .ok (.iadd, 1) := by decide +kernel
theorem dJx4a65c_add_9ea2d_7 : decode cJx4a65c_add_9ea2d 7 = .ok (.putfield 63, 3) := by decide +kernel
theorem dJx4a65c_add_9ea2d_10 : decode cJx4a65c_add_9ea2d 10 = .ok (.aload_n 0, 1) := by decide +kernel
theorem dJx4a65c_add_9ea2d_11 : decode cJx4a65c_add_9ea2d 11 = .ok (.aload_n 1, 1) := by decide +kernel
theorem dJx4a65c_add_9ea2d_12 : decode cJx4a65c_add_9ea2d 12 = .ok (.aload_n 0, 1) := by decide +kernel
theorem dJx4a65c_add_9ea2d_13 : decode cJx4a65c_add_9ea2d 13 = .ok (.getfield 9, 3) := by decide +kernel
theorem dJx4a65c_add_9ea2d_16 : decode cJx4a65c_add_9ea2d 16 = .ok (.aload_n 0, 1) := by decide +kernel
theorem dJx4a65c_add_9ea2d_17 : decode cJx4a65c_add_9ea2d 17 = .ok (.getfield 48, 3) := by decide +kernel
theorem dJx4a65c_add_9ea2d_20 : decode cJx4a65c_add_9ea2d 20 = .ok (.invokevirtual 131, 3) := by decide +kernel
theorem dJx4a65c_add_9ea2d_23 : decode cJx4a65c_add_9ea2d 23 = .ok (.iconst 1, 1) := by decide +kernel
theorem dJx4a65c_add_9ea2d_24 : decode cJx4a65c_add_9ea2d 24 = .ok (.ireturn, 1) := by decide +kernel
set_option maxRecDepth 20000 in
theorem ggJx4a65c_remove_915e3_J15_checkIndex_7cf53 : GoodIn wsJx4a65c_remove_915e3 wsJ15_checkIndex_7cf53 := goodIn_r _ [6, 7, 8, 9, 10] (by decide +kernel) (by decide +kernel)
set_option maxRecDepth 20000 in
theorem gJx4a65c_remove_915e3_J15_checkIndex_7cf53 : GoodIn wsJx4a65c_remove_915e3 (va_wsS RJx4a65c 118 yJ15_checkIndex_7cf53 wsJ15_checkIndex_7cf53) := goodIn_app (goodIn_of _ (by decide +kernel)) ggJx4a65c_remove_915e3_J15_checkIndex_7cf53
set_option maxRecDepth 20000 in
theorem ggJx4a65c_remove_915e3_Jx4a65c_fastRemove_b59b0 : GoodIn wsJx4a65c_remove_915e3 wsJx4a65c_fastRemove_b59b0 := goodIn_r _ [15, 16, 17, 1, 18, 19, 20, 21, 22, 23, 24] (by decide +kernel) (by decide +kernel)
set_option maxRecDepth 20000 in
theorem gJx4a65c_remove_915e3_Jx4a65c_fastRemove_b59b0 : GoodIn wsJx4a65c_remove_915e3 (wsV RJx4a65c 144 RJx4a65c yJx4a65c_fastRemove_b59b0 wsJx4a65c_fastRemove_b59b0) := goodIn_app (goodIn_of _ (by decide +kernel)) ggJx4a65c_remove_915e3_Jx4a65c_fastRemove_b59b0
theorem dJx4a65c_remove_915e3_0 : decode cJx4a65c_remove_915e3 0 = .ok (.iload_n 1, 1) := by decide +kernel
theorem dJx4a65c_remove_915e3_1 : decode cJx4a65c_remove_915e3 1 = .ok (.aload_n 0, 1) := by decide +kernel
theorem dJx4a65c_remove_915e3_2 : decode cJx4a65c_remove_915e3 2 = .ok (.getfield 48, 3) := by decide +kernel
theorem dJx4a65c_remove_915e3_5 : decode cJx4a65c_remove_915e3 5 = .ok (.invokestatic 118, 3) := by decide +kernel
theorem dJx4a65c_remove_915e3_8 : decode cJx4a65c_remove_915e3 8 = .ok (.pop, 1) := by decide +kernel
theorem dJx4a65c_remove_915e3_9 : decode cJx4a65c_remove_915e3 9 = .ok (.aload_n 0, 1) := by decide +kernel
theorem dJx4a65c_remove_915e3_10 : decode cJx4a65c_remove_915e3 10 = .ok (.getfield 9, 3) := by decide +kernel
theorem dJx4a65c_remove_915e3_13 : decode cJx4a65c_remove_915e3 13 = .ok (.astore_n 2, 1) := by decide +kernel
theorem dJx4a65c_remove_915e3_14 : decode cJx4a65c_remove_915e3 14 = .ok (.aload_n 2, 1) := by decide +kernel
theorem dJx4a65c_remove_915e3_15 : decode cJx4a65c_remove_915e3 15 = .ok (.iload_n 1, 1) := by decide +kernel
theorem dJx4a65c_remove_915e3_16 : decode cJx4a65c_remove_915e3 16 = .ok (.aaload, 1) := by decide +kernel
theorem dJx4a65c_remove_915e3_17 : decode cJx4a65c_remove_915e3 17 = .ok (.astore_n 3, 1) := by decide +kernel
theorem dJx4a65c_remove_915e3_18 : decode cJx4a65c_remove_915e3 18 = .ok (.aload_n 0, 1) := by decide +kernel
theorem dJx4a65c_remove_915e3_19 : decode cJx4a65c_remove_915e3 19 = .ok (.aload_n 2, 1) := by decide +kernel
theorem dJx4a65c_remove_915e3_20 : decode cJx4a65c_remove_915e3 20 = .ok (.iload_n 1, 1) := by decide +kernel
theorem dJx4a65c_remove_915e3_21 : decode cJx4a65c_remove_915e3 21 = .ok (.invokevirtual 144, 3) := by decide +kernel
theorem dJx4a65c_remove_915e3_24 : decode cJx4a65c_remove_915e3 24 = .ok (.aload_n 3, 1) := by decide +kernel
theorem dJx4a65c_remove_915e3_25 : decode cJx4a65c_remove_915e3 25 = .ok (.areturn, 1) := by decide +kernel
theorem dJx4a65c_fastRemove_b59b0_0 : decode cJx4a65c_fastRemove_b59b0 0 = .ok (.aload_n 0, 1) := by decide +kernel
theorem dJx4a65c_fastRemove_b59b0_1 : decode cJx4a65c_fastRemove_b59b0 1 = .ok (.dup, 1) := by decide +kernel
theorem dJx4a65c_fastRemove_b59b0_2 : decode cJx4a65c_fastRemove_b59b0 2 = .ok (.getfield 63, 3) := by decide +kernel
theorem dJx4a65c_fastRemove_b59b0_5 : decode cJx4a65c_fastRemove_b59b0 5 = .ok (.iconst 1, 1) := by decide +kernel
theorem dJx4a65c_fastRemove_b59b0_6 : decode cJx4a65c_fastRemove_b59b0 6 = .ok (.iadd, 1) := by decide +kernel
theorem dJx4a65c_fastRemove_b59b0_7 : decode cJx4a65c_fastRemove_b59b0 7 = .ok (.putfield 63, 3) := by decide +kernel
theorem dJx4a65c_fastRemove_b59b0_10 : decode cJx4a65c_fastRemove_b59b0 10 = .ok (.aload_n 0, 1) := by decide +kernel
theorem dJx4a65c_fastRemove_b59b0_11 : decode cJx4a65c_fastRemove_b59b0 11 = .ok (.getfield 48, 3) := by decide +kernel
theorem dJx4a65c_fastRemove_b59b0_14 : decode cJx4a65c_fastRemove_b59b0 14 = .ok (.iconst 1, 1) := by decide +kernel
theorem dJx4a65c_fastRemove_b59b0_15 : decode cJx4a65c_fastRemove_b59b0 15 = .ok (.isub, 1) := by decide +kernel
theorem dJx4a65c_fastRemove_b59b0_16 : decode cJx4a65c_fastRemove_b59b0 16 = .ok (.dup, 1) := by decide +kernel
theorem dJx4a65c_fastRemove_b59b0_17 : decode cJx4a65c_fastRemove_b59b0 17 = .ok (.istore_n 3, 1) := by decide +kernel
theorem dJx4a65c_fastRemove_b59b0_18 : decode cJx4a65c_fastRemove_b59b0 18 = .ok (.iload_n 2, 1) := by decide +kernel
theorem dJx4a65c_fastRemove_b59b0_19 : decode cJx4a65c_fastRemove_b59b0 19 = .ok (.if_icmp .le 15, 3) := by decide +kernel
theorem dJx4a65c_fastRemove_b59b0_22 : decode cJx4a65c_fastRemove_b59b0 22 = .ok (.aload_n 1, 1) := by decide +kernel
theorem dJx4a65c_fastRemove_b59b0_23 : decode cJx4a65c_fastRemove_b59b0 23 = .ok (.iload_n 2, 1) := by decide +kernel
theorem dJx4a65c_fastRemove_b59b0_24 : decode cJx4a65c_fastRemove_b59b0 24 = .ok (.iconst 1, 1) := by decide +kernel
theorem dJx4a65c_fastRemove_b59b0_25 : decode cJx4a65c_fastRemove_b59b0 25 = .ok (.iadd, 1) := by decide +kernel
theorem dJx4a65c_fastRemove_b59b0_26 : decode cJx4a65c_fastRemove_b59b0 26 = .ok (.aload_n 1, 1) := by decide +kernel
theorem dJx4a65c_fastRemove_b59b0_27 : decode cJx4a65c_fastRemove_b59b0 27 = .ok (.iload_n 2, 1) := by decide +kernel
theorem dJx4a65c_fastRemove_b59b0_28 : decode cJx4a65c_fastRemove_b59b0 28 = .ok (.iload_n 3, 1) := by decide +kernel
theorem dJx4a65c_fastRemove_b59b0_29 : decode cJx4a65c_fastRemove_b59b0 29 = .ok (.iload_n 2, 1) := by decide +kernel
theorem dJx4a65c_fastRemove_b59b0_30 : decode cJx4a65c_fastRemove_b59b0 30 = .ok (.isub, 1) := by decide +kernel
theorem dJx4a65c_fastRemove_b59b0_31 : decode cJx4a65c_fastRemove_b59b0 31 = .ok (.invokestatic 112, 3) := by decide +kernel
theorem dJx4a65c_fastRemove_b59b0_34 : decode cJx4a65c_fastRemove_b59b0 34 = .ok (.aload_n 1, 1) := by decide +kernel
theorem dJx4a65c_fastRemove_b59b0_35 : decode cJx4a65c_fastRemove_b59b0 35 = .ok (.aload_n 0, 1) := by decide +kernel
theorem dJx4a65c_fastRemove_b59b0_36 : decode cJx4a65c_fastRemove_b59b0 36 = .ok (.iload_n 3, 1) := by decide +kernel
theorem dJx4a65c_fastRemove_b59b0_37 : decode cJx4a65c_fastRemove_b59b0 37 = .ok (.dup_x1, 1) := by decide +kernel
theorem dJx4a65c_fastRemove_b59b0_38 : decode cJx4a65c_fastRemove_b59b0 38 = .ok (.putfield 48, 3) := by decide +kernel
theorem dJx4a65c_fastRemove_b59b0_41 : decode cJx4a65c_fastRemove_b59b0 41 = .ok (.aconst_null, 1) := by decide +kernel
theorem dJx4a65c_fastRemove_b59b0_42 : decode cJx4a65c_fastRemove_b59b0 42 = .ok (.aastore, 1) := by decide +kernel
theorem dJx4a65c_fastRemove_b59b0_43 : decode cJx4a65c_fastRemove_b59b0 43 = .ok (.return_, 1) := by decide +kernel
theorem dJx4a65c_clear_da8c8_0 : decode cJx4a65c_clear_da8c8 0 = .ok (.aload_n 0, 1) := by decide +kernel
theorem dJx4a65c_clear_da8c8_1 : decode cJx4a65c_clear_da8c8 1 = .ok (.dup, 1) := by decide +kernel
theorem dJx4a65c_clear_da8c8_2 : decode cJx4a65c_clear_da8c8 2 = .ok (.getfield 63, 3) := by decide +kernel
theorem dJx4a65c_clear_da8c8_5 : decode cJx4a65c_clear_da8c8 5 = .ok (.iconst 1, 1) := by decide +kernel
theorem dJx4a65c_clear_da8c8_6 : decode cJx4a65c_clear_da8c8 6 = .ok (.iadd, 1) := by decide +kernel
theorem dJx4a65c_clear_da8c8_7 : decode cJx4a65c_clear_da8c8 7 = .ok (.putfield 63, 3) := by decide +kernel
theorem dJx4a65c_clear_da8c8_10 : decode cJx4a65c_clear_da8c8 10 = .ok (.aload_n 0, 1) := by decide +kernel
theorem dJx4a65c_clear_da8c8_11 : decode cJx4a65c_clear_da8c8 11 = .ok (.getfield 9, 3) := by decide +kernel
theorem dJx4a65c_clear_da8c8_14 : decode cJx4a65c_clear_da8c8 14 = .ok (.astore_n 1, 1) := by decide +kernel
theorem dJx4a65c_clear_da8c8_15 : decode cJx4a65c_clear_da8c8 15 = .ok (.aload_n 0, 1) := by decide +kernel
theorem dJx4a65c_clear_da8c8_16 : decode cJx4a65c_clear_da8c8 16 = .ok (.getfield 48, 3) := by decide +kernel
theorem dJx4a65c_clear_da8c8_19 : decode cJx4a65c_clear_da8c8 19 = .ok (.istore_n 2, 1) := by decide +kernel
theorem dJx4a65c_clear_da8c8_20 : decode cJx4a65c_clear_da8c8 20 = .ok (.aload_n 0, 1) := by decide +kernel
theorem dJx4a65c_clear_da8c8_21 : decode cJx4a65c_clear_da8c8 21 = .ok (.iconst 0, 1) := by decide +kernel
theorem dJx4a65c_clear_da8c8_22 : decode cJx4a65c_clear_da8c8 22 = .ok (.dup_x1, 1) := by decide +kernel
theorem dJx4a65c_clear_da8c8_23 : decode cJx4a65c_clear_da8c8 23 = .ok (.putfield 48, 3) := by decide +kernel
theorem dJx4a65c_clear_da8c8_26 : decode cJx4a65c_clear_da8c8 26 = .ok (.istore_n 3, 1) := by decide +kernel
theorem dJx4a65c_clear_da8c8_27 : decode cJx4a65c_clear_da8c8 27 = .ok (.iload_n 3, 1) := by decide +kernel
theorem dJx4a65c_clear_da8c8_28 : decode cJx4a65c_clear_da8c8 28 = .ok (.iload_n 2, 1) := by decide +kernel
theorem dJx4a65c_clear_da8c8_29 : decode cJx4a65c_clear_da8c8 29 = .ok (.if_icmp .ge 13, 3) := by decide +kernel
theorem dJx4a65c_clear_da8c8_32 : decode cJx4a65c_clear_da8c8 32 = .ok (.aload_n 1, 1) := by decide +kernel
theorem dJx4a65c_clear_da8c8_33 : decode cJx4a65c_clear_da8c8 33 = .ok (.iload_n 3, 1) := by decide +kernel
theorem dJx4a65c_clear_da8c8_34 : decode cJx4a65c_clear_da8c8 34 = .ok (.aconst_null, 1) := by decide +kernel
theorem dJx4a65c_clear_da8c8_35 : decode cJx4a65c_clear_da8c8 35 = .ok (.aastore, 1) := by decide +kernel
theorem dJx4a65c_clear_da8c8_36 : decode cJx4a65c_clear_da8c8 36 = .ok (.iinc 3 1, 3) := by decide +kernel
theorem dJx4a65c_clear_da8c8_39 : decode cJx4a65c_clear_da8c8 39 = .ok (.goto (-12), 3) := by decide +kernel
theorem dJx4a65c_clear_da8c8_42 : decode cJx4a65c_clear_da8c8 42 = .ok (.return_, 1) := by decide +kernel
set_option maxRecDepth 20000 in
theorem ggJx4a65c_addAll_f0b43_Jx4a65c_toArray_d5877 : GoodIn wsJx4a65c_addAll_f0b43 wsJx4a65c_toArray_d5877 := goodIn_r _ [13, 3, 4, 14, 15, 16, 17, 18, 19, 20, 21, 22, 23, 24, 25, 26, 27, 28, 29, 30, 31, 6, 7, 8, 50, 51, 52] (by decide +kernel) (by decide +kernel)
set_option maxRecDepth 20000 in
theorem gJx4a65c_addAll_f0b43_Jx4a65c_toArray_d5877_f42Jx4a65c : GoodIn wsJx4a65c_addAll_f0b43 (va_wsF RJx4a65c 42 RJx4a65c ⟨"java/util/Collection", "toArray", "()[Ljava/lang/Object;"⟩ yJx4a65c_toArray_d5877 wsJx4a65c_toArray_d5877) := goodIn_app (goodIn_of _ (by decide +kernel)) ggJx4a65c_addAll_f0b43_Jx4a65c_toArray_d5877
set_option maxRecDepth 20000 in
theorem ggJx4a65c_addAll_f0b43_Jx4a65c_grow_92f84 : GoodIn wsJx4a65c_addAll_f0b43 wsJx4a65c_grow_92f84 := goodIn_r _ [35, 3, 36, 37, 38, 29, 39, 40, 41, 42, 43, 44, 45, 46, 47, 48, 49, 14, 15, 16, 17, 18, 19, 20, 21, 22, 23, 24, 25, 26, 27, 28, 30, 31, 6, 7, 8, 50, 51, 52] (by decide +kernel) (by decide +kernel)
set_option maxRecDepth 20000 in
theorem gJx4a65c_addAll_f0b43_Jx4a65c_grow_92f84 : GoodIn wsJx4a65c_addAll_f0b43 (wsV RJx4a65c 69 RJx4a65c yJx4a65c_grow_92f84 wsJx4a65c_grow_92f84) := goodIn_app (goodIn_of _ (by decide +kernel)) ggJx4a65c_addAll_f0b43_Jx4a65c_grow_92f84
theorem dJx4a65c_addAll_f0b43_0 : decode cJx4a65c_addAll_f0b43 0 = .ok (.aload_n 1, 1) := by decide +kernel
theorem dJx4a65c_addAll_f0b43_1 : decode cJx4a65c_addAll_f0b43 1 = .ok (.invokeinterface 42 1, 5) := by decide +kernel
theorem dJx4a65c_addAll_f0b43_6 : decode cJx4a65c_addAll_f0b43 6 = .ok (.astore_n 2, 1) := by decide +kernel
theorem dJx4a65c_addAll_f0b43_7 : decode cJx4a65c_addAll_f0b43 7 = .ok (.aload_n 0, 1) := by decide +kernel
theorem dJx4a65c_addAll_f0b43_8 : decode cJx4a65c_addAll_f0b43 8 = .ok (.dup, 1) := by decide +kernel
theorem dJx4a65c_addAll_f0b43_9 : decode cJx4a65c_addAll_f0b43 9 = .ok (.getfield 63, 3) := by decide +kernel
theorem dJx4a65c_addAll_f0b43_12 : decode cJx4a65c_addAll_f0b43 12 = .ok (.iconst 1, 1) := by decide +kernel
theorem dJx4a65c_addAll_f0b43_13 : decode cJx4a65c_addAll_f0b43 13 = .ok (.iadd, 1) := by decide +kernel
theorem dJx4a65c_addAll_f0b43_14 : decode cJx4a65c_addAll_f0b43 14 = .ok (.putfield 63, 3) := by decide +kernel
theorem dJx4a65c_addAll_f0b43_17 : decode cJx4a65c_addAll_f0b43 17 = .ok (.aload_n 2, 1) := by decide +kernel
theorem dJx4a65c_addAll_f0b43_18 : decode cJx4a65c_addAll_f0b43 18 = .ok (.arraylength, 1) := by decide +kernel
theorem dJx4a65c_addAll_f0b43_19 : decode cJx4a65c_addAll_f0b43 19 = .ok (.istore_n 3, 1) := by decide +kernel
theorem dJx4a65c_addAll_f0b43_20 : decode cJx4a65c_addAll_f0b43 20 = .ok (.iload_n 3, 1) := by decide +kernel
theorem dJx4a65c_addAll_f0b43_21 : decode cJx4a65c_addAll_f0b43 21 = .ok (.ifCond .ne 5, 3) := by decide +kernel
theorem dJx4a65c_addAll_f0b43_24 : decode cJx4a65c_addAll_f0b43 24 = .ok (.iconst 0, 1) := by decide +kernel
theorem dJx4a65c_addAll_f0b43_25 : decode cJx4a65c_addAll_f0b43 25 = .ok (.ireturn, 1) := by decide +kernel
theorem dJx4a65c_addAll_f0b43_26 : decode cJx4a65c_addAll_f0b43 26 = .ok (.iload_n 3, 1) := by decide +kernel
theorem dJx4a65c_addAll_f0b43_27 : decode cJx4a65c_addAll_f0b43 27 = .ok (.aload_n 0, 1) := by decide +kernel
theorem dJx4a65c_addAll_f0b43_28 : decode cJx4a65c_addAll_f0b43 28 = .ok (.getfield 9, 3) := by decide +kernel
theorem dJx4a65c_addAll_f0b43_31 : decode cJx4a65c_addAll_f0b43 31 = .ok (.dup, 1) := by decide +kernel
theorem dJx4a65c_addAll_f0b43_32 : decode cJx4a65c_addAll_f0b43 32 = .ok (.astore 4, 2) := by decide +kernel
theorem dJx4a65c_addAll_f0b43_34 : decode cJx4a65c_addAll_f0b43 34 = .ok (.arraylength, 1) := by decide +kernel
theorem dJx4a65c_addAll_f0b43_35 : decode cJx4a65c_addAll_f0b43 35 = .ok (.aload_n 0, 1) := by decide +kernel
theorem dJx4a65c_addAll_f0b43_36 : decode cJx4a65c_addAll_f0b43 36 = .ok (.getfield 48, 3) := by decide +kernel
theorem dJx4a65c_addAll_f0b43_39 : decode cJx4a65c_addAll_f0b43 39 = .ok (.dup, 1) := by decide +kernel
theorem dJx4a65c_addAll_f0b43_40 : decode cJx4a65c_addAll_f0b43 40 = .ok (.istore 5, 2) := by decide +kernel
theorem dJx4a65c_addAll_f0b43_42 : decode cJx4a65c_addAll_f0b43 42 = .ok (.isub, 1) := by decide +kernel
theorem dJx4a65c_addAll_f0b43_43 : decode cJx4a65c_addAll_f0b43 43 = .ok (.if_icmp .le 13, 3) := by decide +kernel
theorem dJx4a65c_addAll_f0b43_46 : decode cJx4a65c_addAll_f0b43 46 = .ok (.aload_n 0, 1) := by decide +kernel
theorem dJx4a65c_addAll_f0b43_47 : decode cJx4a65c_addAll_f0b43 47 = .ok (.iload 5, 2) := by decide +kernel
theorem dJx4a65c_addAll_f0b43_49 : decode cJx4a65c_addAll_f0b43 49 = .ok (.iload_n 3, 1) := by decide +kernel
theorem dJx4a65c_addAll_f0b43_50 : decode cJx4a65c_addAll_f0b43 50 = .ok (.iadd, 1) := by decide +kernel
theorem dJx4a65c_addAll_f0b43_51 : decode cJx4a65c_addAll_f0b43 51 = .ok (.invokevirtual 69, 3) := by decide +kernel
theorem dJx4a65c_addAll_f0b43_54 : decode cJx4a65c_addAll_f0b43 54 = .ok (.astore 4, 2) := by decide +kernel
theorem dJx4a65c_addAll_f0b43_56 : decode cJx4a65c_addAll_f0b43 56 = .ok (.aload_n 2, 1) := by decide +kernel
theorem dJx4a65c_addAll_f0b43_57 : decode cJx4a65c_addAll_f0b43 57 = .ok (.iconst 0, 1) := by decide +kernel
theorem dJx4a65c_addAll_f0b43_58 : decode cJx4a65c_addAll_f0b43 58 = .ok (.aload 4, 2) := by decide +kernel
theorem dJx4a65c_addAll_f0b43_60 : decode cJx4a65c_addAll_f0b43 60 = .ok (.iload 5, 2) := by decide +kernel
theorem dJx4a65c_addAll_f0b43_62 : decode cJx4a65c_addAll_f0b43 62 = .ok (.iload_n 3, 1) := by decide +kernel
theorem dJx4a65c_addAll_f0b43_63 : decode cJx4a65c_addAll_f0b43 63 = .ok (.invokestatic 112, 3) := by decide +kernel
theorem dJx4a65c_addAll_f0b43_66 : decode cJx4a65c_addAll_f0b43 66 = .ok (.aload_n 0, 1) := by decide +kernel
theorem dJx4a65c_addAll_f0b43_67 : decode cJx4a65c_addAll_f0b43 67 = .ok (.iload 5, 2) := by decide +kernel
theorem dJx4a65c_addAll_f0b43_69 : decode cJx4a65c_addAll_f0b43 69 = .ok (.iload_n 3, 1) := by decide +kernel
theorem dJx4a65c_addAll_f0b43_70 : decode cJx4a65c_addAll_f0b43 70 = .ok (.iadd, 1) := by decide +kernel
theorem dJx4a65c_addAll_f0b43_71 : decode cJx4a65c_addAll_f0b43 71 = .ok (.putfield 48, 3) := by decide +kernel
theorem dJx4a65c_addAll_f0b43_74 : decode cJx4a65c_addAll_f0b43 74 = .ok (.iconst 1, 1) := by decide +kernel
theorem dJx4a65c_addAll_f0b43_75 : decode cJx4a65c_addAll_f0b43 75 = .ok (.ireturn, 1) := by decide +kernel
set_option maxRecDepth 20000 in
theorem ggJx4a65c_iterator_32c93_Jx35411_init_45d68 : GoodIn wsJx4a65c_iterator_32c93 wsJx35411_init_45d68 := goodIn_r _ [6, 7, 8, 9, 10, 11, 12, 13, 14, 15, 16, 17, 18, 19, 20, 21] (by decide +kernel) (by decide +kernel)
set_option maxRecDepth 20000 in
theorem gJx4a65c_iterator_32c93_Jx35411_init_45d68 : GoodIn wsJx4a65c_iterator_32c93 (wsJx35411_init_45d68) := ggJx4a65c_iterator_32c93_Jx35411_init_45d68
theorem dJx4a65c_iterator_32c93_0 : decode cJx4a65c_iterator_32c93 0 = .ok (.new 267, 3) := by decide +kernel
theorem dJx4a65c_iterator_32c93_3 : decode cJx4a65c_iterator_32c93 3 = .ok (.dup, 1) := by decide +kernel
theorem dJx4a65c_iterator_32c93_4 : decode cJx4a65c_iterator_32c93 4 = .ok (.aload_n 0, 1) := by decide +kernel
theorem dJx4a65c_iterator_32c93_5 : decode cJx4a65c_iterator_32c93 5 = .ok (.invokespecial 269, 3) := by decide +kernel
theorem dJx4a65c_iterator_32c93_8 : decode cJx4a65c_iterator_32c93 8 = .ok (.areturn, 1) := by decide +kernel
set_option maxRecDepth 20000 in
theorem ggJ7_copyOf_1904c_J7_copyOf_6403c : GoodIn wsJ7_copyOf_1904c wsJ7_copyOf_6403c := goodIn_r _ [8, 9, 10, 11, 12, 13, 14, 15, 16, 17, 18] (by decide +kernel) (by decide +kernel)
set_option maxRecDepth 20000 in
theorem gJ7_copyOf_1904c_J7_copyOf_6403c : GoodIn wsJ7_copyOf_1904c (va_wsS RJ7 300 yJ7_copyOf_6403c wsJ7_copyOf_6403c) := goodIn_app (goodIn_of _ (by decide +kernel)) ggJ7_copyOf_1904c_J7_copyOf_6403c
theorem dJ7_copyOf_1904c_0 : decode cJ7_copyOf_1904c 0 = .ok (.aload_n 0, 1) := by decide +kernel
theorem dJ7_copyOf_1904c_1 : decode cJ7_copyOf_1904c 1 = .ok (.iload_n 1, 1) := by decide +kernel
theorem dJ7_copyOf_1904c_2 : decode cJ7_copyOf_1904c 2 = .ok (.aload_n 0, 1) := by decide +kernel
theorem dJ7_copyOf_1904c_3 : decode cJ7_copyOf_1904c 3 = .ok (.invokevirtual 86, 3) := by decide +kernel
theorem dJ7_copyOf_1904c_6 : decode cJ7_copyOf_1904c 6 = .ok (.invokestatic 300, 3) := by decide +kernel
theorem dJ7_copyOf_1904c_9 : decode cJ7_copyOf_1904c 9 = .ok (.areturn, 1) := by decide +kernel
theorem dJ7_copyOf_6403c_0 : decode cJ7_copyOf_6403c 0 = .ok (.aload_n 2, 1) := by decide +kernel
theorem dJ7_copyOf_6403c_1 : decode cJ7_copyOf_6403c 1 = .ok (.ldc 110, 2) := by decide +kernel
theorem dJ7_copyOf_6403c_3 : decode cJ7_copyOf_6403c 3 = .ok (.if_acmp .ne 10, 3) := by decide +kernel
theorem dJ7_copyOf_6403c_6 : decode cJ7_copyOf_6403c 6 = .ok (.iload_n 1, 1) := by decide +kernel
theorem dJ7_copyOf_6403c_7 : decode cJ7_copyOf_6403c 7 = .ok (.anewarray 2, 3) := by decide +kernel
theorem dJ7_copyOf_6403c_10 : decode cJ7_copyOf_6403c 10 = .ok (.goto 14, 3) := by decide +kernel
theorem dJ7_copyOf_6403c_13 : decode cJ7_copyOf_6403c 13 = .ok (.aload_n 2, 1) := by decide +kernel
theorem dJ7_copyOf_6403c_14 : decode cJ7_copyOf_6403c 14 = .ok (.invokevirtual 90, 3) := by decide +kernel
theorem dJ7_copyOf_6403c_17 : decode cJ7_copyOf_6403c 17 = .ok (.iload_n 1, 1) := by decide +kernel
theorem dJ7_copyOf_6403c_18 : decode cJ7_copyOf_6403c 18 = .ok (.invokestatic 95, 3) := by decide +kernel
theorem dJ7_copyOf_6403c_21 : decode cJ7_copyOf_6403c 21 = .ok (.checkcast 110, 3) := by decide +kernel
theorem dJ7_copyOf_6403c_24 : decode cJ7_copyOf_6403c 24 = .ok (.astore_n 3, 1) := by decide +kernel
theorem dJ7_copyOf_6403c_25 : decode cJ7_copyOf_6403c 25 = .ok (.aload_n 0, 1) := by decide +kernel
theorem dJ7_copyOf_6403c_26 : decode cJ7_copyOf_6403c 26 = .ok (.iconst 0, 1) := by decide +kernel
theorem dJ7_copyOf_6403c_27 : decode cJ7_copyOf_6403c 27 = .ok (.aload_n 3, 1) := by decide +kernel
theorem dJ7_copyOf_6403c_28 : decode cJ7_copyOf_6403c 28 = .ok (.iconst 0, 1) := by decide +kernel
theorem dJ7_copyOf_6403c_29 : decode cJ7_copyOf_6403c 29 = .ok (.aload_n 0, 1) := by decide +kernel
theorem dJ7_copyOf_6403c_30 : decode cJ7_copyOf_6403c 30 = .ok (.arraylength, 1) := by decide +kernel
theorem dJ7_copyOf_6403c_31 : decode cJ7_copyOf_6403c 31 = .ok (.iload_n 1, 1) := by decide +kernel
theorem dJ7_copyOf_6403c_32 : decode cJ7_copyOf_6403c 32 = .ok (.invokestatic 304, 3) := by decide +kernel
theorem dJ7_copyOf_6403c_35 : decode cJ7_copyOf_6403c 35 = .ok (.invokestatic 150, 3) := by decide +kernel
theorem dJ7_copyOf_6403c_38 : decode cJ7_copyOf_6403c 38 = .ok (.aload_n 3, 1) := by decide +kernel
theorem dJ7_copyOf_6403c_39 : decode cJ7_copyOf_6403c 39 = .ok (.areturn, 1) := by decide +kernel
set_option maxRecDepth 20000 in
theorem ggJ15_checkIndex_7cf53_J3_checkIndex_8e157 : GoodIn wsJ15_checkIndex_7cf53 wsJ3_checkIndex_8e157 := goodIn_r _ [4] (by decide +kernel) (by decide +kernel)
set_option maxRecDepth 20000 in
theorem gJ15_checkIndex_7cf53_J3_checkIndex_8e157 : GoodIn wsJ15_checkIndex_7cf53 (va_wsS RJ15 105 yJ3_checkIndex_8e157 wsJ3_checkIndex_8e157) := goodIn_app (goodIn_of _ (by decide +kernel)) ggJ15_checkIndex_7cf53_J3_checkIndex_8e157
theorem dJ15_checkIndex_7cf53_0 : decode cJ15_checkIndex_7cf53 0 = .ok (.iload_n 0, 1) := by decide +kernel
theorem dJ15_checkIndex_7cf53_1 : decode cJ15_checkIndex_7cf53 1 = .ok (.iload_n 1, 1) := by decide +kernel
theorem dJ15_checkIndex_7cf53_2 : decode cJ15_checkIndex_7cf53 2 = .ok (.aconst_null, 1) := by decide +kernel
theorem dJ15_checkIndex_7cf53_3 : decode cJ15_checkIndex_7cf53 3 = .ok (.invokestatic 105, 3) := by decide +kernel
theorem dJ15_checkIndex_7cf53_6 : decode cJ15_checkIndex_7cf53 6 = .ok (.ireturn, 1) := by decide +kernel
set_option maxRecDepth 20000 in
theorem ggJ8_newLength_cabcc_J8_hugeLength_7cf53 : GoodIn wsJ8_newLength_cabcc wsJ8_hugeLength_7cf53 := goodIn_r _ [9, 5] (by decide +kernel) (by decide +kernel)
set_option maxRecDepth 20000 in
theorem gJ8_newLength_cabcc_J8_hugeLength_7cf53 : GoodIn wsJ8_newLength_cabcc (va_wsS RJ8 201 yJ8_hugeLength_7cf53 wsJ8_hugeLength_7cf53) := goodIn_app (goodIn_of _ (by decide +kernel)) ggJ8_newLength_cabcc_J8_hugeLength_7cf53
theorem dJ8_newLength_cabcc_0 : decode cJ8_newLength_cabcc 0 = .ok (.iload_n 0, 1) := by decide +kernel
theorem dJ8_newLength_cabcc_1 : decode cJ8_newLength_cabcc 1 = .ok (.iload_n 1, 1) := by decide +kernel
theorem dJ8_newLength_cabcc_2 : decode cJ8_newLength_cabcc 2 = .ok (.iload_n 2, 1) := by decide +kernel
theorem dJ8_newLength_cabcc_3 : decode cJ8_newLength_cabcc 3 = .ok (.invokestatic 194, 3) := by decide +kernel
theorem dJ8_newLength_cabcc_6 : decode cJ8_newLength_cabcc 6 = .ok (.iadd, 1) := by decide +kernel
theorem dJ8_newLength_cabcc_7 : decode cJ8_newLength_cabcc 7 = .ok (.istore_n 3, 1) := by decide +kernel
theorem dJ8_newLength_cabcc_8 : decode cJ8_newLength_cabcc 8 = .ok (.iconst 0, 1) := by decide +kernel
theorem dJ8_newLength_cabcc_9 : decode cJ8_newLength_cabcc 9 = .ok (.iload_n 3, 1) := by decide +kernel
theorem dJ8_newLength_cabcc_10 : decode cJ8_newLength_cabcc 10 = .ok (.if_icmp .ge 11, 3) := by decide +kernel
theorem dJ8_newLength_cabcc_13 : decode cJ8_newLength_cabcc 13 = .ok (.iload_n 3, 1) := by decide +kernel
theorem dJ8_newLength_cabcc_14 : decode cJ8_newLength_cabcc 14 = .ok (.ldc 200, 2) := by decide +kernel
theorem dJ8_newLength_cabcc_16 : decode cJ8_newLength_cabcc 16 = .ok (.if_icmp .gt 5, 3) := by decide +kernel
theorem dJ8_newLength_cabcc_19 : decode cJ8_newLength_cabcc 19 = .ok (.iload_n 3, 1) := by decide +kernel
theorem dJ8_newLength_cabcc_20 : decode cJ8_newLength_cabcc 20 = .ok (.ireturn, 1) := by decide +kernel
theorem dJ8_newLength_cabcc_21 : decode cJ8_newLength_cabcc 21 = .ok (.iload_n 0, 1) := by decide +kernel
theorem dJ8_newLength_cabcc_22 : decode cJ8_newLength_cabcc 22 = .ok (.iload_n 1, 1) := by decide +kernel
theorem dJ8_newLength_cabcc_23 : decode cJ8_newLength_cabcc 23 = .ok (.invokestatic 201, 3) := by decide +kernel
theorem dJ8_newLength_cabcc_26 : decode cJ8_newLength_cabcc 26 = .ok (.ireturn, 1) := by decide +kernel
theorem dJ8_hugeLength_7cf53_0 : decode cJ8_hugeLength_7cf53 0 = .ok (.iload_n 0, 1) := by decide +kernel
theorem dJ8_hugeLength_7cf53_1 : decode cJ8_hugeLength_7cf53 1 = .ok (.iload_n 1, 1) := by decide +kernel
theorem dJ8_hugeLength_7cf53_2 : decode cJ8_hugeLength_7cf53 2 = .ok (.iadd, 1) := by decide +kernel
theorem dJ8_hugeLength_7cf53_3 : decode cJ8_hugeLength_7cf53 3 = .ok (.istore_n 2, 1) := by decide +kernel
theorem dJ8_hugeLength_7cf53_4 : decode cJ8_hugeLength_7cf53 4 = .ok (.iload_n 2, 1) := by decide +kernel
theorem dJ8_hugeLength_7cf53_5 : decode cJ8_hugeLength_7cf53 5 = .ok (.ifCond .ge 44, 3) := by decide +kernel
theorem dJ8_hugeLength_7cf53_8 : decode cJ8_hugeLength_7cf53 8 = .ok (.new 204, 3) := by decide +kernel
theorem dJ8_hugeLength_7cf53_11 : decode cJ8_hugeLength_7cf53 11 = .ok (.dup, 1) := by decide +kernel
theorem dJ8_hugeLength_7cf53_12 : decode cJ8_hugeLength_7cf53 12 = .ok (.new 89, 3) := by decide +kernel
theorem dJ8_hugeLength_7cf53_15 : decode cJ8_hugeLength_7cf53 15 = .ok (.dup, 1) := by decide +kernel
theorem dJ8_hugeLength_7cf53_16 : decode cJ8_hugeLength_7cf53 16 = .ok (.invokespecial 91, 3) := by decide +kernel
theorem dJ8_hugeLength_7cf53_19 : decode cJ8_hugeLength_7cf53 19 = .ok (.ldc 206, 2) := by decide +kernel
theorem dJ8_hugeLength_7cf53_21 : decode cJ8_hugeLength_7cf53 21 = .ok (.invokevirtual 94, 3) := by decide +kernel
theorem dJ8_hugeLength_7cf53_24 : decode cJ8_hugeLength_7cf53 24 = .ok (.iload_n 0, 1) := by decide +kernel
theorem dJ8_hugeLength_7cf53_25 : decode cJ8_hugeLength_7cf53 25 = .ok (.invokevirtual 98, 3) := by decide +kernel
theorem dJ8_hugeLength_7cf53_28 : decode cJ8_hugeLength_7cf53 28 = .ok (.ldc 208, 2) := by decide +kernel
theorem dJ8_hugeLength_7cf53_30 : decode cJ8_hugeLength_7cf53 30 = .ok (.invokevirtual 94, 3) := by decide +kernel
theorem dJ8_hugeLength_7cf53_33 : decode cJ8_hugeLength_7cf53 33 = .ok (.iload_n 1, 1) := by decide +kernel
theorem dJ8_hugeLength_7cf53_34 : decode cJ8_hugeLength_7cf53 34 = .ok (.invokevirtual 98, 3) := by decide +kernel
theorem dJ8_hugeLength_7cf53_37 : decode cJ8_hugeLength_7cf53 37 = .ok (.ldc 210, 2) := by decide +kernel
theorem dJ8_hugeLength_7cf53_39 : decode cJ8_hugeLength_7cf53 39 = .ok (.invokevirtual 94, 3) := by decide +kernel
theorem dJ8_hugeLength_7cf53_42 : decode cJ8_hugeLength_7cf53 42 = .ok (.invokevirtual 101, 3) := by decide +kernel
theorem dJ8_hugeLength_7cf53_45 : decode cJ8_hugeLength_7cf53 45 = .ok (.invokespecial 212, 3) := by decide +kernel
theorem dJ8_hugeLength_7cf53_48 : decode cJ8_hugeLength_7cf53 48 = .ok (.athrow, 1) := by decide +kernel
theorem dJ8_hugeLength_7cf53_49 : decode cJ8_hugeLength_7cf53 49 = .ok (.iload_n 2, 1) := by decide +kernel
theorem dJ8_hugeLength_7cf53_50 : decode cJ8_hugeLength_7cf53 50 = .ok (.ldc 200, 2) := by decide +kernel
theorem dJ8_hugeLength_7cf53_52 : decode cJ8_hugeLength_7cf53 52 = .ok (.if_icmp .gt 6, 3) := by decide +kernel
theorem dJ8_hugeLength_7cf53_55 : decode cJ8_hugeLength_7cf53 55 = .ok (.ldc 200, 2) := by decide +kernel
theorem dJ8_hugeLength_7cf53_57 : decode cJ8_hugeLength_7cf53 57 = .ok (.ireturn, 1) := by decide +kernel
theorem dJ8_hugeLength_7cf53_58 : decode cJ8_hugeLength_7cf53 58 = .ok (.iload_n 2, 1) := by decide +kernel
theorem dJ8_hugeLength_7cf53_59 : decode cJ8_hugeLength_7cf53 59 = .ok (.ireturn, 1) := by decide +kernel
theorem dJ3_checkIndex_8e157_0 : decode cJ3_checkIndex_8e157 0 = .ok (.iload_n 0, 1) := by decide +kernel
theorem dJ3_checkIndex_8e157_1 : decode cJ3_checkIndex_8e157 1 = .ok (.ifCond .lt 8, 3) := by decide +kernel
theorem dJ3_checkIndex_8e157_4 : decode cJ3_checkIndex_8e157 4 = .ok (.iload_n 0, 1) := by decide +kernel
theorem dJ3_checkIndex_8e157_5 : decode cJ3_checkIndex_8e157 5 = .ok (.iload_n 1, 1) := by decide +kernel
theorem dJ3_checkIndex_8e157_6 : decode cJ3_checkIndex_8e157 6 = .ok (.if_icmp .lt 10, 3) := by decide +kernel
theorem dJ3_checkIndex_8e157_9 : decode cJ3_checkIndex_8e157 9 = .ok (.aload_n 2, 1) := by decide +kernel
theorem dJ3_checkIndex_8e157_10 : decode cJ3_checkIndex_8e157 10 = .ok (.iload_n 0, 1) := by decide +kernel
theorem dJ3_checkIndex_8e157_11 : decode cJ3_checkIndex_8e157 11 = .ok (.iload_n 1, 1) := by decide +kernel
theorem dJ3_checkIndex_8e157_12 : decode cJ3_checkIndex_8e157 12 = .ok (.invokestatic 95, 3) := by decide +kernel
theorem dJ3_checkIndex_8e157_15 : decode cJ3_checkIndex_8e157 15 = .ok (.athrow, 1) := by decide +kernel
theorem dJ3_checkIndex_8e157_16 : decode cJ3_checkIndex_8e157 16 = .ok (.iload_n 0, 1) := by decide +kernel
theorem dJ3_checkIndex_8e157_17 : decode cJ3_checkIndex_8e157 17 = .ok (.ireturn, 1) := by decide +kernel
set_option maxRecDepth 20000 in
theorem ggL_addRoom_X8_addRoom : GoodIn wsL_addRoom wsX8_addRoom := goodIn_ca (goodIn_ca (goodIn_ca (goodIn_r _ [7, 8, 9, 10, 11, 12, 13, 14, 6, 15, 16, 17, 18, 19, 20, 21, 22, 23, 24, 25, 26, 27, 28, 29, 30, 31, 32, 33, 34, 35, 36, 37, 38, 39, 40, 41, 42, 43, 44, 45, 46, 47, 48, 49] (by decide +kernel) (by decide +kernel)) (goodIn_sub (fun _ h => List.mem_cons_of_mem _ (List.mem_append_left _ (List.mem_append_right _ h))) (by decide +kernel))) (goodIn_sub (fun _ h => List.mem_cons_of_mem _ (List.mem_append_right _ h)) (by decide +kernel))) (goodIn_sub (fun _ h => List.mem_cons_of_mem _ (List.mem_append_left _ (List.mem_append_left _ (List.mem_append_right _ h)))) (by decide +kernel))
set_option maxRecDepth 20000 in
theorem gL_addRoom_X8_addRoom : GoodIn wsL_addRoom (wsV RL 7 RX8 yX8_addRoom wsX8_addRoom) := goodIn_app (goodIn_of _ (by decide +kernel)) ggL_addRoom_X8_addRoom
theorem dL_addRoom_0 : decode cL_addRoom 0 = .ok (.aload_n 2, 1) := by decide +kernel
theorem dL_addRoom_1 : decode cL_addRoom 1 = .ok (.iconst 0, 1) := by decide +kernel
theorem dL_addRoom_2 : decode cL_addRoom 2 = .ok (.aload_n 0, 1) := by decide +kernel
theorem dL_addRoom_3 : decode cL_addRoom 3 = .ok (.iload_n 1, 1) := by decide +kernel
theorem dL_addRoom_4 : decode cL_addRoom 4 = .ok (.invokevirtual 7, 3) := by decide +kernel
theorem dL_addRoom_7 : decode cL_addRoom 7 = .ok (.i2l, 1) := by decide +kernel
theorem dL_addRoom_8 : decode cL_addRoom 8 = .ok (.lastore, 1) := by decide +kernel
theorem dL_addRoom_9 : decode cL_addRoom 9 = .ok (.goto 9, 3) := by decide +kernel
theorem dL_addRoom_12 : decode cL_addRoom 12 = .ok (.astore_n 3, 1) := by decide +kernel
theorem dL_addRoom_13 : decode cL_addRoom 13 = .ok (.iconst 1, 1) := by decide +kernel
theorem dL_addRoom_14 : decode cL_addRoom 14 = .ok (.ireturn, 1) := by decide +kernel
theorem dL_addRoom_15 : decode cL_addRoom 15 = .ok (.astore_n 3, 1) := by decide +kernel
theorem dL_addRoom_16 : decode cL_addRoom 16 = .ok (.iconst 2, 1) := by decide +kernel
theorem dL_addRoom_17 : decode cL_addRoom 17 = .ok (.ireturn, 1) := by decide +kernel
theorem dL_addRoom_18 : decode cL_addRoom 18 = .ok (.iconst 0, 1) := by decide +kernel
theorem dL_addRoom_19 : decode cL_addRoom 19 = .ok (.ireturn, 1) := by decide +kernel
set_option maxRecDepth 20000 in
theorem ggL_addHatch_X8_addHatch : GoodIn wsL_addHatch wsX8_addHatch := goodIn_ca (goodIn_ca (goodIn_ca (goodIn_ca (goodIn_r _ [8, 9, 10, 11, 12, 13, 14, 15, 16, 17, 7, 18, 19, 20, 21, 22, 23, 24, 25, 26, 27, 28, 29, 30, 31, 32, 33, 34, 35, 36, 37, 38, 39, 40, 41, 42, 43, 44, 45, 46, 47, 48, 49, 50, 51, 52, 53, 54, 55, 56, 57, 58, 59, 60, 61, 62, 63] (by decide +kernel) (by decide +kernel)) (goodIn_sub (fun _ h => List.mem_cons_of_mem _ (List.mem_append_left _ (List.mem_append_left _ (List.mem_append_right _ h)))) (by decide +kernel))) (goodIn_sub (fun _ h => List.mem_cons_of_mem _ (List.mem_append_left _ (List.mem_append_right _ h))) (by decide +kernel))) (goodIn_sub (fun _ h => List.mem_cons_of_mem _ (List.mem_append_right _ h)) (by decide +kernel))) (goodIn_sub (fun _ h => List.mem_cons_of_mem _ (List.mem_append_left _ (List.mem_append_left _ (List.mem_append_left _ (List.mem_append_right _ h))))) (by decide +kernel))
set_option maxRecDepth 20000 in
theorem gL_addHatch_X8_addHatch : GoodIn wsL_addHatch (wsV RL 17 RX8 yX8_addHatch wsX8_addHatch) := goodIn_app (goodIn_of _ (by decide +kernel)) ggL_addHatch_X8_addHatch
theorem dL_addHatch_0 : decode cL_addHatch 0 = .ok (.aload_n 3, 1) := by decide +kernel
theorem dL_addHatch_1 : decode cL_addHatch 1 = .ok (.iconst 0, 1) := by decide +kernel
theorem dL_addHatch_2 : decode cL_addHatch 2 = .ok (.aload_n 0, 1) := by decide +kernel
theorem dL_addHatch_3 : decode cL_addHatch 3 = .ok (.iload_n 1, 1) := by decide +kernel
theorem dL_addHatch_4 : decode cL_addHatch 4 = .ok (.iload_n 2, 1) := by decide +kernel
theorem dL_addHatch_5 : decode cL_addHatch 5 = .ok (.invokevirtual 17, 3) := by decide +kernel
theorem dL_addHatch_8 : decode cL_addHatch 8 = .ok (.i2l, 1) := by decide +kernel
theorem dL_addHatch_9 : decode cL_addHatch 9 = .ok (.lastore, 1) := by decide +kernel
theorem dL_addHatch_10 : decode cL_addHatch 10 = .ok (.goto 15, 3) := by decide +kernel
theorem dL_addHatch_13 : decode cL_addHatch 13 = .ok (.astore 4, 2) := by decide +kernel
theorem dL_addHatch_15 : decode cL_addHatch 15 = .ok (.iconst 1, 1) := by decide +kernel
theorem dL_addHatch_16 : decode cL_addHatch 16 = .ok (.ireturn, 1) := by decide +kernel
theorem dL_addHatch_17 : decode cL_addHatch 17 = .ok (.astore 4, 2) := by decide +kernel
theorem dL_addHatch_19 : decode cL_addHatch 19 = .ok (.iconst 2, 1) := by decide +kernel
theorem dL_addHatch_20 : decode cL_addHatch 20 = .ok (.ireturn, 1) := by decide +kernel
theorem dL_addHatch_21 : decode cL_addHatch 21 = .ok (.astore 4, 2) := by decide +kernel
theorem dL_addHatch_23 : decode cL_addHatch 23 = .ok (.iconst 3, 1) := by decide +kernel
theorem dL_addHatch_24 : decode cL_addHatch 24 = .ok (.ireturn, 1) := by decide +kernel
theorem dL_addHatch_25 : decode cL_addHatch 25 = .ok (.iconst 0, 1) := by decide +kernel
theorem dL_addHatch_26 : decode cL_addHatch 26 = .ok (.ireturn, 1) := by decide +kernel
set_option maxRecDepth 20000 in
theorem ggL_setHatch_X8_setHatch : GoodIn wsL_setHatch wsX8_setHatch := goodIn_ca (goodIn_ca (goodIn_r _ [6, 7, 8, 9, 10, 11, 12, 5, 13, 14, 15, 16, 17, 18, 19, 20, 21, 22, 23, 24, 25, 26, 27, 28, 29, 30, 31, 32, 33, 34, 35] (by decide +kernel) (by decide +kernel)) (goodIn_sub (fun _ h => List.mem_cons_of_mem _ (List.mem_append_left _ (List.mem_append_right _ h))) (by decide +kernel))) (goodIn_sub (fun _ h => List.mem_cons_of_mem _ (List.mem_append_right _ h)) (by decide +kernel))
set_option maxRecDepth 20000 in
theorem gL_setHatch_X8_setHatch : GoodIn wsL_setHatch (wsV RL 23 RX8 yX8_setHatch wsX8_setHatch) := goodIn_app (goodIn_of _ (by decide +kernel)) ggL_setHatch_X8_setHatch
theorem dL_setHatch_0 : decode cL_setHatch 0 = .ok (.aload_n 3, 1) := by decide +kernel
theorem dL_setHatch_1 : decode cL_setHatch 1 = .ok (.iconst 0, 1) := by decide +kernel
theorem dL_setHatch_2 : decode cL_setHatch 2 = .ok (.aload_n 0, 1) := by decide +kernel
theorem dL_setHatch_3 : decode cL_setHatch 3 = .ok (.iload_n 1, 1) := by decide +kernel
theorem dL_setHatch_4 : decode cL_setHatch 4 = .ok (.iload_n 2, 1) := by decide +kernel
theorem dL_setHatch_5 : decode cL_setHatch 5 = .ok (.invokevirtual 23, 3) := by decide +kernel
theorem dL_setHatch_8 : decode cL_setHatch 8 = .ok (.ifCond .eq 7, 3) := by decide +kernel
theorem dL_setHatch_11 : decode cL_setHatch 11 = .ok (.lconst 1, 1) := by decide +kernel
theorem dL_setHatch_12 : decode cL_setHatch 12 = .ok (.goto 4, 3) := by decide +kernel
theorem dL_setHatch_15 : decode cL_setHatch 15 = .ok (.lconst 0, 1) := by decide +kernel
theorem dL_setHatch_16 : decode cL_setHatch 16 = .ok (.lastore, 1) := by decide +kernel
theorem dL_setHatch_17 : decode cL_setHatch 17 = .ok (.goto 7, 3) := by decide +kernel
theorem dL_setHatch_20 : decode cL_setHatch 20 = .ok (.astore 4, 2) := by decide +kernel
theorem dL_setHatch_22 : decode cL_setHatch 22 = .ok (.iconst 1, 1) := by decide +kernel
theorem dL_setHatch_23 : decode cL_setHatch 23 = .ok (.ireturn, 1) := by decide +kernel
theorem dL_setHatch_24 : decode cL_setHatch 24 = .ok (.iconst 0, 1) := by decide +kernel
theorem dL_setHatch_25 : decode cL_setHatch 25 = .ok (.ireturn, 1) := by decide +kernel
set_option maxRecDepth 20000 in
theorem ggL_setLeak_X8_setLeak : GoodIn wsL_setLeak wsX8_setLeak := goodIn_ca (goodIn_ca (goodIn_ca (goodIn_r _ [7, 8, 9, 10, 11, 12, 13, 6, 14, 15, 16, 17, 18, 19, 20, 21, 22, 23, 24, 25, 26, 27, 28, 29, 30, 31, 32, 33, 34, 35, 36, 37, 38, 39, 40, 41, 42, 43, 44, 45, 46] (by decide +kernel) (by decide +kernel)) (goodIn_sub (fun _ h => List.mem_cons_of_mem _ (List.mem_append_left _ (List.mem_append_left _ (List.mem_append_right _ h)))) (by decide +kernel))) (goodIn_sub (fun _ h => List.mem_cons_of_mem _ (List.mem_append_left _ (List.mem_append_right _ h))) (by decide +kernel))) (goodIn_sub (fun _ h => List.mem_cons_of_mem _ (List.mem_append_right _ h)) (by decide +kernel))
set_option maxRecDepth 20000 in
theorem gL_setLeak_X8_setLeak : GoodIn wsL_setLeak (wsV RL 27 RX8 yX8_setLeak wsX8_setLeak) := goodIn_app (goodIn_of _ (by decide +kernel)) ggL_setLeak_X8_setLeak
theorem dL_setLeak_0 : decode cL_setLeak 0 = .ok (.aload_n 3, 1) := by decide +kernel
theorem dL_setLeak_1 : decode cL_setLeak 1 = .ok (.iconst 0, 1) := by decide +kernel
theorem dL_setLeak_2 : decode cL_setLeak 2 = .ok (.aload_n 0, 1) := by decide +kernel
theorem dL_setLeak_3 : decode cL_setLeak 3 = .ok (.iload_n 1, 1) := by decide +kernel
theorem dL_setLeak_4 : decode cL_setLeak 4 = .ok (.iload_n 2, 1) := by decide +kernel
theorem dL_setLeak_5 : decode cL_setLeak 5 = .ok (.invokevirtual 27, 3) := by decide +kernel
theorem dL_setLeak_8 : decode cL_setLeak 8 = .ok (.i2l, 1) := by decide +kernel
theorem dL_setLeak_9 : decode cL_setLeak 9 = .ok (.lastore, 1) := by decide +kernel
theorem dL_setLeak_10 : decode cL_setLeak 10 = .ok (.goto 11, 3) := by decide +kernel
theorem dL_setLeak_13 : decode cL_setLeak 13 = .ok (.astore 4, 2) := by decide +kernel
theorem dL_setLeak_15 : decode cL_setLeak 15 = .ok (.iconst 1, 1) := by decide +kernel
theorem dL_setLeak_16 : decode cL_setLeak 16 = .ok (.ireturn, 1) := by decide +kernel
theorem dL_setLeak_17 : decode cL_setLeak 17 = .ok (.astore 4, 2) := by decide +kernel
theorem dL_setLeak_19 : decode cL_setLeak 19 = .ok (.iconst 2, 1) := by decide +kernel
theorem dL_setLeak_20 : decode cL_setLeak 20 = .ok (.ireturn, 1) := by decide +kernel
theorem dL_setLeak_21 : decode cL_setLeak 21 = .ok (.iconst 0, 1) := by decide +kernel
theorem dL_setLeak_22 : decode cL_setLeak 22 = .ok (.ireturn, 1) := by decide +kernel
set_option maxRecDepth 20000 in
theorem ggL_addDevice_X8_addDevice : GoodIn wsL_addDevice wsX8_addDevice := goodIn_ca (goodIn_ca (goodIn_ca (goodIn_ca (goodIn_r _ [8, 9, 10, 11, 12, 13, 14, 15, 16, 17, 7, 18, 19, 20, 21, 22, 23, 24, 25, 26, 27, 28, 29, 30, 31, 32, 33, 34, 35, 36, 37, 38, 39, 40, 41, 42, 43, 44, 45, 46, 47, 48, 49, 50, 51, 52, 53, 54, 55, 56, 57, 58, 59, 60, 61, 62, 63] (by decide +kernel) (by decide +kernel)) (goodIn_sub (fun _ h => List.mem_cons_of_mem _ (List.mem_append_left _ (List.mem_append_left _ (List.mem_append_right _ h)))) (by decide +kernel))) (goodIn_sub (fun _ h => List.mem_cons_of_mem _ (List.mem_append_left _ (List.mem_append_right _ h))) (by decide +kernel))) (goodIn_sub (fun _ h => List.mem_cons_of_mem _ (List.mem_append_right _ h)) (by decide +kernel))) (goodIn_sub (fun _ h => List.mem_cons_of_mem _ (List.mem_append_left _ (List.mem_append_left _ (List.mem_append_left _ (List.mem_append_right _ h))))) (by decide +kernel))
set_option maxRecDepth 20000 in
theorem gL_addDevice_X8_addDevice : GoodIn wsL_addDevice (wsV RL 30 RX8 yX8_addDevice wsX8_addDevice) := goodIn_app (goodIn_of _ (by decide +kernel)) ggL_addDevice_X8_addDevice
theorem dL_addDevice_0 : decode cL_addDevice 0 = .ok (.aload_n 3, 1) := by decide +kernel
theorem dL_addDevice_1 : decode cL_addDevice 1 = .ok (.iconst 0, 1) := by decide +kernel
theorem dL_addDevice_2 : decode cL_addDevice 2 = .ok (.aload_n 0, 1) := by decide +kernel
theorem dL_addDevice_3 : decode cL_addDevice 3 = .ok (.iload_n 1, 1) := by decide +kernel
theorem dL_addDevice_4 : decode cL_addDevice 4 = .ok (.iload_n 2, 1) := by decide +kernel
theorem dL_addDevice_5 : decode cL_addDevice 5 = .ok (.invokevirtual 30, 3) := by decide +kernel
theorem dL_addDevice_8 : decode cL_addDevice 8 = .ok (.i2l, 1) := by decide +kernel
theorem dL_addDevice_9 : decode cL_addDevice 9 = .ok (.lastore, 1) := by decide +kernel
theorem dL_addDevice_10 : decode cL_addDevice 10 = .ok (.goto 15, 3) := by decide +kernel
theorem dL_addDevice_13 : decode cL_addDevice 13 = .ok (.astore 4, 2) := by decide +kernel
theorem dL_addDevice_15 : decode cL_addDevice 15 = .ok (.iconst 1, 1) := by decide +kernel
theorem dL_addDevice_16 : decode cL_addDevice 16 = .ok (.ireturn, 1) := by decide +kernel
theorem dL_addDevice_17 : decode cL_addDevice 17 = .ok (.astore 4, 2) := by decide +kernel
theorem dL_addDevice_19 : decode cL_addDevice 19 = .ok (.iconst 2, 1) := by decide +kernel
theorem dL_addDevice_20 : decode cL_addDevice 20 = .ok (.ireturn, 1) := by decide +kernel
theorem dL_addDevice_21 : decode cL_addDevice 21 = .ok (.astore 4, 2) := by decide +kernel
theorem dL_addDevice_23 : decode cL_addDevice 23 = .ok (.iconst 3, 1) := by decide +kernel
theorem dL_addDevice_24 : decode cL_addDevice 24 = .ok (.ireturn, 1) := by decide +kernel
theorem dL_addDevice_25 : decode cL_addDevice 25 = .ok (.iconst 0, 1) := by decide +kernel
theorem dL_addDevice_26 : decode cL_addDevice 26 = .ok (.ireturn, 1) := by decide +kernel
set_option maxRecDepth 20000 in
theorem ggL_setDevice_X8_setDevice : GoodIn wsL_setDevice wsX8_setDevice := goodIn_ca (goodIn_ca (goodIn_ca (goodIn_r _ [7, 8, 9, 10, 11, 12, 13, 14, 15, 16, 17, 6, 18, 19, 20, 21, 22, 23, 24, 25, 26, 27, 28, 29, 30, 31, 32, 33, 34, 35, 36, 37, 38, 39, 40, 41] (by decide +kernel) (by decide +kernel)) (goodIn_sub (fun _ h => List.mem_cons_of_mem _ (List.mem_append_left _ (List.mem_append_left _ (List.mem_append_right _ h)))) (by decide +kernel))) (goodIn_sub (fun _ h => List.mem_cons_of_mem _ (List.mem_append_left _ (List.mem_append_right _ h))) (by decide +kernel))) (goodIn_sub (fun _ h => List.mem_cons_of_mem _ (List.mem_append_right _ h)) (by decide +kernel))
set_option maxRecDepth 20000 in
theorem gL_setDevice_X8_setDevice : GoodIn wsL_setDevice (wsV RL 34 RX8 yX8_setDevice wsX8_setDevice) := goodIn_app (goodIn_of _ (by decide +kernel)) ggL_setDevice_X8_setDevice
theorem dL_setDevice_0 : decode cL_setDevice 0 = .ok (.aload_n 3, 1) := by decide +kernel
theorem dL_setDevice_1 : decode cL_setDevice 1 = .ok (.iconst 0, 1) := by decide +kernel
theorem dL_setDevice_2 : decode cL_setDevice 2 = .ok (.aload_n 0, 1) := by decide +kernel
theorem dL_setDevice_3 : decode cL_setDevice 3 = .ok (.iload_n 1, 1) := by decide +kernel
theorem dL_setDevice_4 : decode cL_setDevice 4 = .ok (.iload_n 2, 1) := by decide +kernel
theorem dL_setDevice_5 : decode cL_setDevice 5 = .ok (.invokevirtual 34, 3) := by decide +kernel
theorem dL_setDevice_8 : decode cL_setDevice 8 = .ok (.ifCond .eq 7, 3) := by decide +kernel
theorem dL_setDevice_11 : decode cL_setDevice 11 = .ok (.lconst 1, 1) := by decide +kernel
theorem dL_setDevice_12 : decode cL_setDevice 12 = .ok (.goto 4, 3) := by decide +kernel
theorem dL_setDevice_15 : decode cL_setDevice 15 = .ok (.lconst 0, 1) := by decide +kernel
theorem dL_setDevice_16 : decode cL_setDevice 16 = .ok (.lastore, 1) := by decide +kernel
theorem dL_setDevice_17 : decode cL_setDevice 17 = .ok (.goto 11, 3) := by decide +kernel
theorem dL_setDevice_20 : decode cL_setDevice 20 = .ok (.astore 4, 2) := by decide +kernel
theorem dL_setDevice_22 : decode cL_setDevice 22 = .ok (.iconst 1, 1) := by decide +kernel
theorem dL_setDevice_23 : decode cL_setDevice 23 = .ok (.ireturn, 1) := by decide +kernel
theorem dL_setDevice_24 : decode cL_setDevice 24 = .ok (.astore 4, 2) := by decide +kernel
theorem dL_setDevice_26 : decode cL_setDevice 26 = .ok (.iconst 2, 1) := by decide +kernel
theorem dL_setDevice_27 : decode cL_setDevice 27 = .ok (.ireturn, 1) := by decide +kernel
theorem dL_setDevice_28 : decode cL_setDevice 28 = .ok (.iconst 0, 1) := by decide +kernel
theorem dL_setDevice_29 : decode cL_setDevice 29 = .ok (.ireturn, 1) := by decide +kernel
set_option maxRecDepth 20000 in
theorem ggL_setPanels_X8_setPanels : GoodIn wsL_setPanels wsX8_setPanels := goodIn_ca (goodIn_r _ [6, 7, 8, 9, 10, 5, 11, 12, 13, 14, 15, 16, 17, 18, 19, 20, 21, 22, 23, 24, 25, 26, 27, 28, 29] (by decide +kernel) (by decide +kernel)) (goodIn_sub (fun _ h => List.mem_cons_of_mem _ (List.mem_append_right _ h)) (by decide +kernel))
set_option maxRecDepth 20000 in
theorem gL_setPanels_X8_setPanels : GoodIn wsL_setPanels (wsV RL 39 RX8 yX8_setPanels wsX8_setPanels) := goodIn_app (goodIn_of _ (by decide +kernel)) ggL_setPanels_X8_setPanels
theorem dL_setPanels_0 : decode cL_setPanels 0 = .ok (.aload_n 2, 1) := by decide +kernel
theorem dL_setPanels_1 : decode cL_setPanels 1 = .ok (.iconst 0, 1) := by decide +kernel
theorem dL_setPanels_2 : decode cL_setPanels 2 = .ok (.aload_n 0, 1) := by decide +kernel
theorem dL_setPanels_3 : decode cL_setPanels 3 = .ok (.iload_n 1, 1) := by decide +kernel
theorem dL_setPanels_4 : decode cL_setPanels 4 = .ok (.invokevirtual 39, 3) := by decide +kernel
theorem dL_setPanels_7 : decode cL_setPanels 7 = .ok (.i2l, 1) := by decide +kernel
theorem dL_setPanels_8 : decode cL_setPanels 8 = .ok (.lastore, 1) := by decide +kernel
theorem dL_setPanels_9 : decode cL_setPanels 9 = .ok (.goto 6, 3) := by decide +kernel
theorem dL_setPanels_12 : decode cL_setPanels 12 = .ok (.astore_n 3, 1) := by decide +kernel
theorem dL_setPanels_13 : decode cL_setPanels 13 = .ok (.iconst 1, 1) := by decide +kernel
theorem dL_setPanels_14 : decode cL_setPanels 14 = .ok (.ireturn, 1) := by decide +kernel
theorem dL_setPanels_15 : decode cL_setPanels 15 = .ok (.iconst 0, 1) := by decide +kernel
theorem dL_setPanels_16 : decode cL_setPanels 16 = .ok (.ireturn, 1) := by decide +kernel
set_option maxRecDepth 20000 in
theorem ggL_board_X8_board : GoodIn wsL_board wsX8_board := goodIn_ca (goodIn_ca (goodIn_ca (goodIn_r _ [7, 8, 9, 10, 11, 12, 13, 14, 6, 15, 16, 17, 18, 19, 20, 21, 22, 23, 24, 25, 26, 27, 28, 29, 30, 31, 32, 33, 34, 35, 36, 37, 38, 39, 40, 41, 42, 43, 44, 45, 46, 47, 48, 49, 50, 51, 52, 53, 54, 55, 56, 57, 58, 59, 60, 61] (by decide +kernel) (by decide +kernel)) (goodIn_sub (fun _ h => List.mem_cons_of_mem _ (List.mem_append_left _ (List.mem_append_right _ h))) (by decide +kernel))) (goodIn_sub (fun _ h => List.mem_cons_of_mem _ (List.mem_append_right _ h)) (by decide +kernel))) (goodIn_sub (fun _ h => List.mem_cons_of_mem _ (List.mem_append_left _ (List.mem_append_left _ (List.mem_append_right _ h)))) (by decide +kernel))
set_option maxRecDepth 20000 in
theorem gL_board_X8_board : GoodIn wsL_board (wsV RL 42 RX8 yX8_board wsX8_board) := goodIn_app (goodIn_of _ (by decide +kernel)) ggL_board_X8_board
theorem dL_board_0 : decode cL_board 0 = .ok (.aload_n 2, 1) := by decide +kernel
theorem dL_board_1 : decode cL_board 1 = .ok (.iconst 0, 1) := by decide +kernel
theorem dL_board_2 : decode cL_board 2 = .ok (.aload_n 0, 1) := by decide +kernel
theorem dL_board_3 : decode cL_board 3 = .ok (.iload_n 1, 1) := by decide +kernel
theorem dL_board_4 : decode cL_board 4 = .ok (.invokevirtual 42, 3) := by decide +kernel
theorem dL_board_7 : decode cL_board 7 = .ok (.i2l, 1) := by decide +kernel
theorem dL_board_8 : decode cL_board 8 = .ok (.lastore, 1) := by decide +kernel
theorem dL_board_9 : decode cL_board 9 = .ok (.goto 9, 3) := by decide +kernel
theorem dL_board_12 : decode cL_board 12 = .ok (.astore_n 3, 1) := by decide +kernel
theorem dL_board_13 : decode cL_board 13 = .ok (.iconst 1, 1) := by decide +kernel
theorem dL_board_14 : decode cL_board 14 = .ok (.ireturn, 1) := by decide +kernel
theorem dL_board_15 : decode cL_board 15 = .ok (.astore_n 3, 1) := by decide +kernel
theorem dL_board_16 : decode cL_board 16 = .ok (.iconst 2, 1) := by decide +kernel
theorem dL_board_17 : decode cL_board 17 = .ok (.ireturn, 1) := by decide +kernel
theorem dL_board_18 : decode cL_board 18 = .ok (.iconst 0, 1) := by decide +kernel
theorem dL_board_19 : decode cL_board 19 = .ok (.ireturn, 1) := by decide +kernel
set_option maxRecDepth 20000 in
theorem ggL_move_X8_move : GoodIn wsL_move wsX8_move := goodIn_ca (goodIn_ca (goodIn_ca (goodIn_ca (goodIn_r _ [8, 9, 10, 11, 12, 13, 14, 15, 16, 17, 7, 18, 19, 20, 21, 22, 23, 24, 25, 26, 27, 28, 29, 30, 31, 32, 33, 34, 35, 36, 37, 38, 39, 40, 41, 42, 43, 44, 45, 46, 47, 48, 49, 50, 51, 52, 53, 54, 55, 56, 57, 58, 59, 60, 61, 62, 63, 64, 65, 66, 67, 68, 69, 70, 71, 72, 73] (by decide +kernel) (by decide +kernel)) (goodIn_sub (fun _ h => List.mem_cons_of_mem _ (List.mem_append_left _ (List.mem_append_left _ (List.mem_append_left _ (List.mem_append_right _ h))))) (by decide +kernel))) (goodIn_sub (fun _ h => List.mem_cons_of_mem _ (List.mem_append_left _ (List.mem_append_left _ (List.mem_append_right _ h)))) (by decide +kernel))) (goodIn_sub (fun _ h => List.mem_cons_of_mem _ (List.mem_append_left _ (List.mem_append_right _ h))) (by decide +kernel))) (goodIn_sub (fun _ h => List.mem_cons_of_mem _ (List.mem_append_right _ h)) (by decide +kernel))
set_option maxRecDepth 20000 in
theorem gL_move_X8_move : GoodIn wsL_move (wsV RL 45 RX8 yX8_move wsX8_move) := goodIn_app (goodIn_of _ (by decide +kernel)) ggL_move_X8_move
theorem dL_move_0 : decode cL_move 0 = .ok (.aload_n 3, 1) := by decide +kernel
theorem dL_move_1 : decode cL_move 1 = .ok (.iconst 0, 1) := by decide +kernel
theorem dL_move_2 : decode cL_move 2 = .ok (.aload_n 0, 1) := by decide +kernel
theorem dL_move_3 : decode cL_move 3 = .ok (.iload_n 1, 1) := by decide +kernel
theorem dL_move_4 : decode cL_move 4 = .ok (.iload_n 2, 1) := by decide +kernel
theorem dL_move_5 : decode cL_move 5 = .ok (.invokevirtual 45, 3) := by decide +kernel
theorem dL_move_8 : decode cL_move 8 = .ok (.i2l, 1) := by decide +kernel
theorem dL_move_9 : decode cL_move 9 = .ok (.lastore, 1) := by decide +kernel
theorem dL_move_10 : decode cL_move 10 = .ok (.goto 15, 3) := by decide +kernel
theorem dL_move_13 : decode cL_move 13 = .ok (.astore 4, 2) := by decide +kernel
theorem dL_move_15 : decode cL_move 15 = .ok (.iconst 1, 1) := by decide +kernel
theorem dL_move_16 : decode cL_move 16 = .ok (.ireturn, 1) := by decide +kernel
theorem dL_move_17 : decode cL_move 17 = .ok (.astore 4, 2) := by decide +kernel
theorem dL_move_19 : decode cL_move 19 = .ok (.iconst 2, 1) := by decide +kernel
theorem dL_move_20 : decode cL_move 20 = .ok (.ireturn, 1) := by decide +kernel
theorem dL_move_21 : decode cL_move 21 = .ok (.astore 4, 2) := by decide +kernel
theorem dL_move_23 : decode cL_move 23 = .ok (.iconst 3, 1) := by decide +kernel
theorem dL_move_24 : decode cL_move 24 = .ok (.ireturn, 1) := by decide +kernel
theorem dL_move_25 : decode cL_move 25 = .ok (.iconst 0, 1) := by decide +kernel
theorem dL_move_26 : decode cL_move 26 = .ok (.ireturn, 1) := by decide +kernel
set_option maxRecDepth 20000 in
theorem ggL_setTask_X8_setTask : GoodIn wsL_setTask wsX8_setTask := goodIn_ca (goodIn_ca (goodIn_ca (goodIn_ca (goodIn_ca (goodIn_r _ [9, 10, 11, 12, 13, 14, 15, 16, 17, 18, 19, 20, 8, 21, 22, 23, 24, 25, 26, 27, 28, 29, 30, 31, 32, 33, 34, 35, 36, 37, 38, 39, 40, 41, 42, 43, 44, 45, 46, 47, 48, 49, 50, 51, 52] (by decide +kernel) (by decide +kernel)) (goodIn_sub (fun _ h => List.mem_cons_of_mem _ (List.mem_append_left _ (List.mem_append_left _ (List.mem_append_left _ (List.mem_append_right _ h))))) (by decide +kernel))) (goodIn_sub (fun _ h => List.mem_cons_of_mem _ (List.mem_append_left _ (List.mem_append_left _ (List.mem_append_right _ h)))) (by decide +kernel))) (goodIn_sub (fun _ h => List.mem_cons_of_mem _ (List.mem_append_left _ (List.mem_append_left _ (List.mem_append_left _ (List.mem_append_left _ (List.mem_append_right _ h)))))) (by decide +kernel))) (goodIn_sub (fun _ h => List.mem_cons_of_mem _ (List.mem_append_left _ (List.mem_append_right _ h))) (by decide +kernel))) (goodIn_sub (fun _ h => List.mem_cons_of_mem _ (List.mem_append_right _ h)) (by decide +kernel))
set_option maxRecDepth 20000 in
theorem gL_setTask_X8_setTask : GoodIn wsL_setTask (wsV RL 48 RX8 yX8_setTask wsX8_setTask) := goodIn_app (goodIn_of _ (by decide +kernel)) ggL_setTask_X8_setTask
theorem dL_setTask_0 : decode cL_setTask 0 = .ok (.aload_n 3, 1) := by decide +kernel
theorem dL_setTask_1 : decode cL_setTask 1 = .ok (.iconst 0, 1) := by decide +kernel
theorem dL_setTask_2 : decode cL_setTask 2 = .ok (.aload_n 0, 1) := by decide +kernel
theorem dL_setTask_3 : decode cL_setTask 3 = .ok (.iload_n 1, 1) := by decide +kernel
theorem dL_setTask_4 : decode cL_setTask 4 = .ok (.iload_n 2, 1) := by decide +kernel
theorem dL_setTask_5 : decode cL_setTask 5 = .ok (.invokevirtual 48, 3) := by decide +kernel
theorem dL_setTask_8 : decode cL_setTask 8 = .ok (.i2l, 1) := by decide +kernel
theorem dL_setTask_9 : decode cL_setTask 9 = .ok (.lastore, 1) := by decide +kernel
theorem dL_setTask_10 : decode cL_setTask 10 = .ok (.goto 19, 3) := by decide +kernel
theorem dL_setTask_13 : decode cL_setTask 13 = .ok (.astore 4, 2) := by decide +kernel
theorem dL_setTask_15 : decode cL_setTask 15 = .ok (.iconst 1, 1) := by decide +kernel
theorem dL_setTask_16 : decode cL_setTask 16 = .ok (.ireturn, 1) := by decide +kernel
theorem dL_setTask_17 : decode cL_setTask 17 = .ok (.astore 4, 2) := by decide +kernel
theorem dL_setTask_19 : decode cL_setTask 19 = .ok (.iconst 2, 1) := by decide +kernel
theorem dL_setTask_20 : decode cL_setTask 20 = .ok (.ireturn, 1) := by decide +kernel
theorem dL_setTask_21 : decode cL_setTask 21 = .ok (.astore 4, 2) := by decide +kernel
theorem dL_setTask_23 : decode cL_setTask 23 = .ok (.iconst 3, 1) := by decide +kernel
theorem dL_setTask_24 : decode cL_setTask 24 = .ok (.ireturn, 1) := by decide +kernel
theorem dL_setTask_25 : decode cL_setTask 25 = .ok (.astore 4, 2) := by decide +kernel
theorem dL_setTask_27 : decode cL_setTask 27 = .ok (.iconst 4, 1) := by decide +kernel
theorem dL_setTask_28 : decode cL_setTask 28 = .ok (.ireturn, 1) := by decide +kernel
theorem dL_setTask_29 : decode cL_setTask 29 = .ok (.iconst 0, 1) := by decide +kernel
theorem dL_setTask_30 : decode cL_setTask 30 = .ok (.ireturn, 1) := by decide +kernel
set_option maxRecDepth 20000 in
theorem ggL_send_X8_send : GoodIn wsL_send wsX8_send := goodIn_ca (goodIn_ca (goodIn_ca (goodIn_ca (goodIn_ca (goodIn_r _ [9, 10, 11, 12, 13, 14, 15, 16, 17, 18, 19, 20, 21, 22, 23, 24, 25, 8, 26, 27, 28, 29, 30, 31, 32, 33, 34, 35, 36, 37, 38, 39, 40, 41, 42, 43, 44, 45, 46, 47, 48, 49, 50, 51, 52, 53, 54, 55, 56, 57, 58, 59, 60, 61, 62, 63, 64, 65, 66, 67, 68, 69, 70, 71, 72, 73, 74, 75] (by decide +kernel) (by decide +kernel)) (goodIn_sub (fun _ h => List.mem_cons_of_mem _ (List.mem_append_left _ (List.mem_append_left _ (List.mem_append_left _ (List.mem_append_right _ h))))) (by decide +kernel))) (goodIn_sub (fun _ h => List.mem_cons_of_mem _ (List.mem_append_left _ (List.mem_append_left _ (List.mem_append_right _ h)))) (by decide +kernel))) (goodIn_sub (fun _ h => List.mem_cons_of_mem _ (List.mem_append_left _ (List.mem_append_right _ h))) (by decide +kernel))) (goodIn_sub (fun _ h => List.mem_cons_of_mem _ (List.mem_append_right _ h)) (by decide +kernel))) (goodIn_sub (fun _ h => List.mem_cons_of_mem _ (List.mem_append_left _ (List.mem_append_left _ (List.mem_append_left _ (List.mem_append_left _ (List.mem_append_right _ h)))))) (by decide +kernel))
set_option maxRecDepth 20000 in
theorem gL_send_X8_send : GoodIn wsL_send (wsV RL 52 RX8 yX8_send wsX8_send) := goodIn_app (goodIn_of _ (by decide +kernel)) ggL_send_X8_send
theorem dL_send_0 : decode cL_send 0 = .ok (.aload 5, 2) := by decide +kernel
theorem dL_send_2 : decode cL_send 2 = .ok (.iconst 0, 1) := by decide +kernel
theorem dL_send_3 : decode cL_send 3 = .ok (.aload_n 0, 1) := by decide +kernel
theorem dL_send_4 : decode cL_send 4 = .ok (.iload_n 1, 1) := by decide +kernel
theorem dL_send_5 : decode cL_send 5 = .ok (.iload_n 2, 1) := by decide +kernel
theorem dL_send_6 : decode cL_send 6 = .ok (.iload_n 3, 1) := by decide +kernel
theorem dL_send_7 : decode cL_send 7 = .ok (.iload 4, 2) := by decide +kernel
theorem dL_send_9 : decode cL_send 9 = .ok (.invokevirtual 52, 3) := by decide +kernel
theorem dL_send_12 : decode cL_send 12 = .ok (.i2l, 1) := by decide +kernel
theorem dL_send_13 : decode cL_send 13 = .ok (.lastore, 1) := by decide +kernel
theorem dL_send_14 : decode cL_send 14 = .ok (.goto 19, 3) := by decide +kernel
theorem dL_send_17 : decode cL_send 17 = .ok (.astore 6, 2) := by decide +kernel
theorem dL_send_19 : decode cL_send 19 = .ok (.iconst 1, 1) := by decide +kernel
theorem dL_send_20 : decode cL_send 20 = .ok (.ireturn, 1) := by decide +kernel
theorem dL_send_21 : decode cL_send 21 = .ok (.astore 6, 2) := by decide +kernel
theorem dL_send_23 : decode cL_send 23 = .ok (.iconst 2, 1) := by decide +kernel
theorem dL_send_24 : decode cL_send 24 = .ok (.ireturn, 1) := by decide +kernel
theorem dL_send_25 : decode cL_send 25 = .ok (.astore 6, 2) := by decide +kernel
theorem dL_send_27 : decode cL_send 27 = .ok (.iconst 3, 1) := by decide +kernel
theorem dL_send_28 : decode cL_send 28 = .ok (.ireturn, 1) := by decide +kernel
theorem dL_send_29 : decode cL_send 29 = .ok (.astore 6, 2) := by decide +kernel
theorem dL_send_31 : decode cL_send 31 = .ok (.iconst 4, 1) := by decide +kernel
theorem dL_send_32 : decode cL_send 32 = .ok (.ireturn, 1) := by decide +kernel
theorem dL_send_33 : decode cL_send 33 = .ok (.iconst 0, 1) := by decide +kernel
theorem dL_send_34 : decode cL_send 34 = .ok (.ireturn, 1) := by decide +kernel
set_option maxRecDepth 20000 in
theorem ggL_approach_X8_approach : GoodIn wsL_approach wsX8_approach := goodIn_ca (goodIn_ca (goodIn_ca (goodIn_r _ [7, 8, 9, 10, 11, 12, 13, 6, 14, 15, 16, 17, 18, 19, 20, 21, 22, 23, 24, 25, 26, 27, 28, 29, 30, 31, 32, 33, 34, 35, 36, 37, 38, 39, 40, 41, 42, 43, 44, 45, 46, 47, 48, 49, 50, 51] (by decide +kernel) (by decide +kernel)) (goodIn_sub (fun _ h => List.mem_cons_of_mem _ (List.mem_append_left _ (List.mem_append_right _ h))) (by decide +kernel))) (goodIn_sub (fun _ h => List.mem_cons_of_mem _ (List.mem_append_right _ h)) (by decide +kernel))) (goodIn_sub (fun _ h => List.mem_cons_of_mem _ (List.mem_append_left _ (List.mem_append_left _ (List.mem_append_right _ h)))) (by decide +kernel))
set_option maxRecDepth 20000 in
theorem gL_approach_X8_approach : GoodIn wsL_approach (wsV RL 56 RX8 yX8_approach wsX8_approach) := goodIn_app (goodIn_of _ (by decide +kernel)) ggL_approach_X8_approach
theorem dL_approach_0 : decode cL_approach 0 = .ok (.aload_n 3, 1) := by decide +kernel
theorem dL_approach_1 : decode cL_approach 1 = .ok (.iconst 0, 1) := by decide +kernel
theorem dL_approach_2 : decode cL_approach 2 = .ok (.aload_n 0, 1) := by decide +kernel
theorem dL_approach_3 : decode cL_approach 3 = .ok (.iload_n 1, 1) := by decide +kernel
theorem dL_approach_4 : decode cL_approach 4 = .ok (.iload_n 2, 1) := by decide +kernel
theorem dL_approach_5 : decode cL_approach 5 = .ok (.invokevirtual 56, 3) := by decide +kernel
theorem dL_approach_8 : decode cL_approach 8 = .ok (.i2l, 1) := by decide +kernel
theorem dL_approach_9 : decode cL_approach 9 = .ok (.lastore, 1) := by decide +kernel
theorem dL_approach_10 : decode cL_approach 10 = .ok (.goto 11, 3) := by decide +kernel
theorem dL_approach_13 : decode cL_approach 13 = .ok (.astore 4, 2) := by decide +kernel
theorem dL_approach_15 : decode cL_approach 15 = .ok (.iconst 1, 1) := by decide +kernel
theorem dL_approach_16 : decode cL_approach 16 = .ok (.ireturn, 1) := by decide +kernel
theorem dL_approach_17 : decode cL_approach 17 = .ok (.astore 4, 2) := by decide +kernel
theorem dL_approach_19 : decode cL_approach 19 = .ok (.iconst 2, 1) := by decide +kernel
theorem dL_approach_20 : decode cL_approach 20 = .ok (.ireturn, 1) := by decide +kernel
theorem dL_approach_21 : decode cL_approach 21 = .ok (.iconst 0, 1) := by decide +kernel
theorem dL_approach_22 : decode cL_approach 22 = .ok (.ireturn, 1) := by decide +kernel
set_option maxRecDepth 20000 in
theorem ggL_burn_X8_burn : GoodIn wsL_burn wsX8_burn := goodIn_ca (goodIn_ca (goodIn_ca (goodIn_ca (goodIn_ca (goodIn_r _ [9, 10, 11, 12, 13, 14, 15, 16, 17, 18, 19, 20, 21, 22, 23, 24, 25, 8, 26, 27, 28, 29, 30, 31, 32, 33, 34, 35, 36, 37, 38, 39, 40, 41, 42, 43, 44, 45, 46, 47, 48, 49, 50, 51, 52, 53, 54, 55] (by decide +kernel) (by decide +kernel)) (goodIn_sub (fun _ h => List.mem_cons_of_mem _ (List.mem_append_left _ (List.mem_append_left _ (List.mem_append_left _ (List.mem_append_left _ (List.mem_append_right _ h)))))) (by decide +kernel))) (goodIn_sub (fun _ h => List.mem_cons_of_mem _ (List.mem_append_left _ (List.mem_append_left _ (List.mem_append_left _ (List.mem_append_right _ h))))) (by decide +kernel))) (goodIn_sub (fun _ h => List.mem_cons_of_mem _ (List.mem_append_left _ (List.mem_append_left _ (List.mem_append_right _ h)))) (by decide +kernel))) (goodIn_sub (fun _ h => List.mem_cons_of_mem _ (List.mem_append_left _ (List.mem_append_right _ h))) (by decide +kernel))) (goodIn_sub (fun _ h => List.mem_cons_of_mem _ (List.mem_append_right _ h)) (by decide +kernel))
set_option maxRecDepth 20000 in
theorem gL_burn_X8_burn : GoodIn wsL_burn (wsV RL 59 RX8 yX8_burn wsX8_burn) := goodIn_app (goodIn_of _ (by decide +kernel)) ggL_burn_X8_burn
theorem dL_burn_0 : decode cL_burn 0 = .ok (.aload_n 3, 1) := by decide +kernel
theorem dL_burn_1 : decode cL_burn 1 = .ok (.iconst 0, 1) := by decide +kernel
theorem dL_burn_2 : decode cL_burn 2 = .ok (.aload_n 0, 1) := by decide +kernel
theorem dL_burn_3 : decode cL_burn 3 = .ok (.iload_n 1, 1) := by decide +kernel
theorem dL_burn_4 : decode cL_burn 4 = .ok (.iload_n 2, 1) := by decide +kernel
theorem dL_burn_5 : decode cL_burn 5 = .ok (.invokevirtual 59, 3) := by decide +kernel
theorem dL_burn_8 : decode cL_burn 8 = .ok (.i2l, 1) := by decide +kernel
theorem dL_burn_9 : decode cL_burn 9 = .ok (.lastore, 1) := by decide +kernel
theorem dL_burn_10 : decode cL_burn 10 = .ok (.goto 19, 3) := by decide +kernel
theorem dL_burn_13 : decode cL_burn 13 = .ok (.astore 4, 2) := by decide +kernel
theorem dL_burn_15 : decode cL_burn 15 = .ok (.iconst 1, 1) := by decide +kernel
theorem dL_burn_16 : decode cL_burn 16 = .ok (.ireturn, 1) := by decide +kernel
theorem dL_burn_17 : decode cL_burn 17 = .ok (.astore 4, 2) := by decide +kernel
theorem dL_burn_19 : decode cL_burn 19 = .ok (.iconst 2, 1) := by decide +kernel
theorem dL_burn_20 : decode cL_burn 20 = .ok (.ireturn, 1) := by decide +kernel
theorem dL_burn_21 : decode cL_burn 21 = .ok (.astore 4, 2) := by decide +kernel
theorem dL_burn_23 : decode cL_burn 23 = .ok (.iconst 3, 1) := by decide +kernel
theorem dL_burn_24 : decode cL_burn 24 = .ok (.ireturn, 1) := by decide +kernel
theorem dL_burn_25 : decode cL_burn 25 = .ok (.astore 4, 2) := by decide +kernel
theorem dL_burn_27 : decode cL_burn 27 = .ok (.iconst 4, 1) := by decide +kernel
theorem dL_burn_28 : decode cL_burn 28 = .ok (.ireturn, 1) := by decide +kernel
theorem dL_burn_29 : decode cL_burn 29 = .ok (.iconst 0, 1) := by decide +kernel
theorem dL_burn_30 : decode cL_burn 30 = .ok (.ireturn, 1) := by decide +kernel
set_option maxRecDepth 20000 in
theorem ggL_pass_X8_pass : GoodIn wsL_pass wsX8_pass := goodIn_ca (goodIn_ca (goodIn_ca (goodIn_r _ [7, 8, 9, 10, 11, 12, 13, 6, 14, 15, 16, 17, 18, 19, 20, 21, 22, 23, 24, 25, 26, 27, 28, 29, 30, 31, 32, 33, 34, 35, 36, 37, 38, 39, 40, 41, 42, 43, 44, 45, 46, 47, 48, 49, 50, 51, 52, 53, 54, 55, 56, 57, 58, 59, 60, 61, 62, 63, 64, 65, 66, 67, 68, 69, 70, 71, 72, 73, 74, 75, 76, 77, 78, 79, 80, 81, 82, 83, 84, 85, 86, 87, 88, 89, 90, 91, 92, 93, 94, 95, 96, 97, 98, 99, 100, 101, 102, 103, 104, 105, 106, 107, 108, 109, 110, 111, 112, 113, 114, 115, 116, 117, 118, 119, 120, 121, 122, 123, 124, 125, 126, 127, 128, 129, 130, 131, 132, 133, 134, 135, 136, 137, 138, 139, 140, 141, 142, 143, 144, 145, 146, 147, 148, 149, 150, 151, 152, 153, 154, 155, 156, 157, 158, 159, 160, 161, 162, 163, 164, 165, 166, 167, 168, 169, 170, 171, 172, 173, 174, 175, 176, 177, 178, 179, 180, 181, 182, 183, 184, 185, 186, 187, 188, 189, 190, 191, 192, 193, 194, 195, 196, 197, 198, 199, 200, 201, 202, 203, 204, 205, 206, 207, 208, 209, 210, 211, 212, 213, 214, 215, 216, 217, 218, 219, 220, 221, 222, 223, 224, 225, 226, 227, 228, 229, 230, 231, 232, 233, 234, 235, 236, 237, 238, 239, 240, 241, 242, 243, 244, 245, 246, 247, 248, 249, 250, 251] (by decide +kernel) (by decide +kernel)) (goodIn_sub (fun _ h => List.mem_cons_of_mem _ (List.mem_append_left _ (List.mem_append_right _ h))) (by decide +kernel))) (goodIn_sub (fun _ h => List.mem_cons_of_mem _ (List.mem_append_right _ h)) (by decide +kernel))) (goodIn_sub (fun _ h => List.mem_cons_of_mem _ (List.mem_append_left _ (List.mem_append_left _ (List.mem_append_right _ h)))) (by decide +kernel))
set_option maxRecDepth 20000 in
theorem gL_pass_X8_pass : GoodIn wsL_pass (wsV RL 62 RX8 yX8_pass wsX8_pass) := goodIn_app (goodIn_of _ (by decide +kernel)) ggL_pass_X8_pass
theorem dL_pass_0 : decode cL_pass 0 = .ok (.aload_n 2, 1) := by decide +kernel
theorem dL_pass_1 : decode cL_pass 1 = .ok (.iconst 0, 1) := by decide +kernel
theorem dL_pass_2 : decode cL_pass 2 = .ok (.aload_n 0, 1) := by decide +kernel
theorem dL_pass_3 : decode cL_pass 3 = .ok (.iload_n 1, 1) := by decide +kernel
theorem dL_pass_4 : decode cL_pass 4 = .ok (.invokevirtual 62, 3) := by decide +kernel
theorem dL_pass_7 : decode cL_pass 7 = .ok (.i2l, 1) := by decide +kernel
theorem dL_pass_8 : decode cL_pass 8 = .ok (.lastore, 1) := by decide +kernel
theorem dL_pass_9 : decode cL_pass 9 = .ok (.goto 9, 3) := by decide +kernel
theorem dL_pass_12 : decode cL_pass 12 = .ok (.astore_n 3, 1) := by decide +kernel
theorem dL_pass_13 : decode cL_pass 13 = .ok (.iconst 1, 1) := by decide +kernel
theorem dL_pass_14 : decode cL_pass 14 = .ok (.ireturn, 1) := by decide +kernel
theorem dL_pass_15 : decode cL_pass 15 = .ok (.astore_n 3, 1) := by decide +kernel
theorem dL_pass_16 : decode cL_pass 16 = .ok (.iconst 2, 1) := by decide +kernel
theorem dL_pass_17 : decode cL_pass 17 = .ok (.ireturn, 1) := by decide +kernel
theorem dL_pass_18 : decode cL_pass 18 = .ok (.iconst 0, 1) := by decide +kernel
theorem dL_pass_19 : decode cL_pass 19 = .ok (.ireturn, 1) := by decide +kernel
set_option maxRecDepth 20000 in
theorem ggL_oxygen_X8_oxygen : GoodIn wsL_oxygen wsX8_oxygen := goodIn_ca (goodIn_ca (goodIn_r _ [6, 7, 8, 9, 10, 11, 12, 5, 13, 14, 15, 16, 17, 18, 19, 20, 21, 22, 23, 24, 25, 26, 27, 28, 29, 30, 31, 32, 33, 34, 35, 36, 37, 38, 39, 40] (by decide +kernel) (by decide +kernel)) (goodIn_sub (fun _ h => List.mem_cons_of_mem _ (List.mem_append_left _ (List.mem_append_right _ h))) (by decide +kernel))) (goodIn_sub (fun _ h => List.mem_cons_of_mem _ (List.mem_append_right _ h)) (by decide +kernel))
set_option maxRecDepth 20000 in
theorem gL_oxygen_X8_oxygen : GoodIn wsL_oxygen (wsV RL 67 RX8 yX8_oxygen wsX8_oxygen) := goodIn_app (goodIn_of _ (by decide +kernel)) ggL_oxygen_X8_oxygen
theorem dL_oxygen_0 : decode cL_oxygen 0 = .ok (.aload_n 2, 1) := by decide +kernel
theorem dL_oxygen_1 : decode cL_oxygen 1 = .ok (.iconst 0, 1) := by decide +kernel
theorem dL_oxygen_2 : decode cL_oxygen 2 = .ok (.aload_n 0, 1) := by decide +kernel
theorem dL_oxygen_3 : decode cL_oxygen 3 = .ok (.iload_n 1, 1) := by decide +kernel
theorem dL_oxygen_4 : decode cL_oxygen 4 = .ok (.invokevirtual 67, 3) := by decide +kernel
theorem dL_oxygen_7 : decode cL_oxygen 7 = .ok (.i2l, 1) := by decide +kernel
theorem dL_oxygen_8 : decode cL_oxygen 8 = .ok (.lastore, 1) := by decide +kernel
theorem dL_oxygen_9 : decode cL_oxygen 9 = .ok (.goto 6, 3) := by decide +kernel
theorem dL_oxygen_12 : decode cL_oxygen 12 = .ok (.astore_n 3, 1) := by decide +kernel
theorem dL_oxygen_13 : decode cL_oxygen 13 = .ok (.iconst 1, 1) := by decide +kernel
theorem dL_oxygen_14 : decode cL_oxygen 14 = .ok (.ireturn, 1) := by decide +kernel
theorem dL_oxygen_15 : decode cL_oxygen 15 = .ok (.iconst 0, 1) := by decide +kernel
theorem dL_oxygen_16 : decode cL_oxygen 16 = .ok (.ireturn, 1) := by decide +kernel
set_option maxRecDepth 20000 in
theorem ggL_carbon_X8_carbon : GoodIn wsL_carbon wsX8_carbon := goodIn_ca (goodIn_ca (goodIn_r _ [6, 7, 8, 9, 10, 11, 12, 5, 13, 14, 15, 16, 17, 18, 19, 20, 21, 22, 23, 24, 25, 26, 27, 28, 29, 30, 31, 32, 33, 34, 35, 36, 37, 38, 39, 40] (by decide +kernel) (by decide +kernel)) (goodIn_sub (fun _ h => List.mem_cons_of_mem _ (List.mem_append_left _ (List.mem_append_right _ h))) (by decide +kernel))) (goodIn_sub (fun _ h => List.mem_cons_of_mem _ (List.mem_append_right _ h)) (by decide +kernel))
set_option maxRecDepth 20000 in
theorem gL_carbon_X8_carbon : GoodIn wsL_carbon (wsV RL 70 RX8 yX8_carbon wsX8_carbon) := goodIn_app (goodIn_of _ (by decide +kernel)) ggL_carbon_X8_carbon
theorem dL_carbon_0 : decode cL_carbon 0 = .ok (.aload_n 2, 1) := by decide +kernel
theorem dL_carbon_1 : decode cL_carbon 1 = .ok (.iconst 0, 1) := by decide +kernel
theorem dL_carbon_2 : decode cL_carbon 2 = .ok (.aload_n 0, 1) := by decide +kernel
theorem dL_carbon_3 : decode cL_carbon 3 = .ok (.iload_n 1, 1) := by decide +kernel
theorem dL_carbon_4 : decode cL_carbon 4 = .ok (.invokevirtual 70, 3) := by decide +kernel
theorem dL_carbon_7 : decode cL_carbon 7 = .ok (.i2l, 1) := by decide +kernel
theorem dL_carbon_8 : decode cL_carbon 8 = .ok (.lastore, 1) := by decide +kernel
theorem dL_carbon_9 : decode cL_carbon 9 = .ok (.goto 6, 3) := by decide +kernel
theorem dL_carbon_12 : decode cL_carbon 12 = .ok (.astore_n 3, 1) := by decide +kernel
theorem dL_carbon_13 : decode cL_carbon 13 = .ok (.iconst 1, 1) := by decide +kernel
theorem dL_carbon_14 : decode cL_carbon 14 = .ok (.ireturn, 1) := by decide +kernel
theorem dL_carbon_15 : decode cL_carbon 15 = .ok (.iconst 0, 1) := by decide +kernel
theorem dL_carbon_16 : decode cL_carbon 16 = .ok (.ireturn, 1) := by decide +kernel
set_option maxRecDepth 20000 in
theorem ggL_whereIs_X8_whereIs : GoodIn wsL_whereIs wsX8_whereIs := goodIn_ca (goodIn_ca (goodIn_r _ [6, 7, 8, 9, 10, 11, 12, 13, 5, 14, 15, 16, 17, 18, 19, 20, 21, 22, 23, 24, 25, 26, 27, 28, 29, 30, 31, 32, 33, 34, 35, 36, 37, 38] (by decide +kernel) (by decide +kernel)) (goodIn_sub (fun _ h => List.mem_cons_of_mem _ (List.mem_append_left _ (List.mem_append_right _ h))) (by decide +kernel))) (goodIn_sub (fun _ h => List.mem_cons_of_mem _ (List.mem_append_right _ h)) (by decide +kernel))
set_option maxRecDepth 20000 in
theorem gL_whereIs_X8_whereIs : GoodIn wsL_whereIs (wsV RL 73 RX8 yX8_whereIs wsX8_whereIs) := goodIn_app (goodIn_of _ (by decide +kernel)) ggL_whereIs_X8_whereIs
theorem dL_whereIs_0 : decode cL_whereIs 0 = .ok (.aload_n 2, 1) := by decide +kernel
theorem dL_whereIs_1 : decode cL_whereIs 1 = .ok (.iconst 0, 1) := by decide +kernel
theorem dL_whereIs_2 : decode cL_whereIs 2 = .ok (.aload_n 0, 1) := by decide +kernel
theorem dL_whereIs_3 : decode cL_whereIs 3 = .ok (.iload_n 1, 1) := by decide +kernel
theorem dL_whereIs_4 : decode cL_whereIs 4 = .ok (.invokevirtual 73, 3) := by decide +kernel
theorem dL_whereIs_7 : decode cL_whereIs 7 = .ok (.i2l, 1) := by decide +kernel
theorem dL_whereIs_8 : decode cL_whereIs 8 = .ok (.lastore, 1) := by decide +kernel
theorem dL_whereIs_9 : decode cL_whereIs 9 = .ok (.goto 6, 3) := by decide +kernel
theorem dL_whereIs_12 : decode cL_whereIs 12 = .ok (.astore_n 3, 1) := by decide +kernel
theorem dL_whereIs_13 : decode cL_whereIs 13 = .ok (.iconst 1, 1) := by decide +kernel
theorem dL_whereIs_14 : decode cL_whereIs 14 = .ok (.ireturn, 1) := by decide +kernel
theorem dL_whereIs_15 : decode cL_whereIs 15 = .ok (.iconst 0, 1) := by decide +kernel
theorem dL_whereIs_16 : decode cL_whereIs 16 = .ok (.ireturn, 1) := by decide +kernel
set_option maxRecDepth 20000 in
theorem ggL_distance_X8_distance : GoodIn wsL_distance wsX8_distance := goodIn_ca (goodIn_ca (goodIn_r _ [6, 7, 8, 9, 10, 11, 12, 13, 5, 14, 15, 16, 17, 18, 19, 20, 21, 22, 23, 24, 25, 26, 27, 28, 29, 30, 31, 32, 33, 34, 35, 36, 37, 38] (by decide +kernel) (by decide +kernel)) (goodIn_sub (fun _ h => List.mem_cons_of_mem _ (List.mem_append_left _ (List.mem_append_right _ h))) (by decide +kernel))) (goodIn_sub (fun _ h => List.mem_cons_of_mem _ (List.mem_append_right _ h)) (by decide +kernel))
set_option maxRecDepth 20000 in
theorem gL_distance_X8_distance : GoodIn wsL_distance (wsV RL 76 RX8 yX8_distance wsX8_distance) := goodIn_app (goodIn_of _ (by decide +kernel)) ggL_distance_X8_distance
theorem dL_distance_0 : decode cL_distance 0 = .ok (.aload_n 2, 1) := by decide +kernel
theorem dL_distance_1 : decode cL_distance 1 = .ok (.iconst 0, 1) := by decide +kernel
theorem dL_distance_2 : decode cL_distance 2 = .ok (.aload_n 0, 1) := by decide +kernel
theorem dL_distance_3 : decode cL_distance 3 = .ok (.iload_n 1, 1) := by decide +kernel
theorem dL_distance_4 : decode cL_distance 4 = .ok (.invokevirtual 76, 3) := by decide +kernel
theorem dL_distance_7 : decode cL_distance 7 = .ok (.i2l, 1) := by decide +kernel
theorem dL_distance_8 : decode cL_distance 8 = .ok (.lastore, 1) := by decide +kernel
theorem dL_distance_9 : decode cL_distance 9 = .ok (.goto 6, 3) := by decide +kernel
theorem dL_distance_12 : decode cL_distance 12 = .ok (.astore_n 3, 1) := by decide +kernel
theorem dL_distance_13 : decode cL_distance 13 = .ok (.iconst 1, 1) := by decide +kernel
theorem dL_distance_14 : decode cL_distance 14 = .ok (.ireturn, 1) := by decide +kernel
theorem dL_distance_15 : decode cL_distance 15 = .ok (.iconst 0, 1) := by decide +kernel
theorem dL_distance_16 : decode cL_distance 16 = .ok (.ireturn, 1) := by decide +kernel
set_option maxRecDepth 20000 in
theorem ggL_isOn_X8_isOn : GoodIn wsL_isOn wsX8_isOn := goodIn_ca (goodIn_ca (goodIn_r _ [6, 7, 8, 9, 10, 11, 12, 5, 13, 14, 15, 16, 17, 18, 19, 20, 21, 22, 23, 24, 25, 26, 27, 28, 29, 30, 31, 32, 33, 34, 35, 36] (by decide +kernel) (by decide +kernel)) (goodIn_sub (fun _ h => List.mem_cons_of_mem _ (List.mem_append_left _ (List.mem_append_right _ h))) (by decide +kernel))) (goodIn_sub (fun _ h => List.mem_cons_of_mem _ (List.mem_append_right _ h)) (by decide +kernel))
set_option maxRecDepth 20000 in
theorem gL_isOn_X8_isOn : GoodIn wsL_isOn (wsV RL 79 RX8 yX8_isOn wsX8_isOn) := goodIn_app (goodIn_of _ (by decide +kernel)) ggL_isOn_X8_isOn
theorem dL_isOn_0 : decode cL_isOn 0 = .ok (.aload_n 2, 1) := by decide +kernel
theorem dL_isOn_1 : decode cL_isOn 1 = .ok (.iconst 0, 1) := by decide +kernel
theorem dL_isOn_2 : decode cL_isOn 2 = .ok (.aload_n 0, 1) := by decide +kernel
theorem dL_isOn_3 : decode cL_isOn 3 = .ok (.iload_n 1, 1) := by decide +kernel
theorem dL_isOn_4 : decode cL_isOn 4 = .ok (.invokevirtual 79, 3) := by decide +kernel
theorem dL_isOn_7 : decode cL_isOn 7 = .ok (.ifCond .eq 7, 3) := by decide +kernel
theorem dL_isOn_10 : decode cL_isOn 10 = .ok (.lconst 1, 1) := by decide +kernel
theorem dL_isOn_11 : decode cL_isOn 11 = .ok (.goto 4, 3) := by decide +kernel
theorem dL_isOn_14 : decode cL_isOn 14 = .ok (.lconst 0, 1) := by decide +kernel
theorem dL_isOn_15 : decode cL_isOn 15 = .ok (.lastore, 1) := by decide +kernel
theorem dL_isOn_16 : decode cL_isOn 16 = .ok (.goto 6, 3) := by decide +kernel
theorem dL_isOn_19 : decode cL_isOn 19 = .ok (.astore_n 3, 1) := by decide +kernel
theorem dL_isOn_20 : decode cL_isOn 20 = .ok (.iconst 1, 1) := by decide +kernel
theorem dL_isOn_21 : decode cL_isOn 21 = .ok (.ireturn, 1) := by decide +kernel
theorem dL_isOn_22 : decode cL_isOn 22 = .ok (.iconst 0, 1) := by decide +kernel
theorem dL_isOn_23 : decode cL_isOn 23 = .ok (.ireturn, 1) := by decide +kernel
set_option maxRecDepth 20000 in
theorem ggL_eventAt_X8_eventAt : GoodIn wsL_eventAt wsX8_eventAt := goodIn_ca (goodIn_ca (goodIn_r _ [6, 7, 8, 9, 10, 11, 12, 5, 13, 14, 15, 16, 17, 18, 19, 20, 21, 22, 23, 24, 25, 26, 27, 28, 29, 30, 31, 32, 33] (by decide +kernel) (by decide +kernel)) (goodIn_sub (fun _ h => List.mem_cons_of_mem _ (List.mem_append_left _ (List.mem_append_right _ h))) (by decide +kernel))) (goodIn_sub (fun _ h => List.mem_cons_of_mem _ (List.mem_append_right _ h)) (by decide +kernel))
set_option maxRecDepth 20000 in
theorem gL_eventAt_X8_eventAt : GoodIn wsL_eventAt (wsV RL 83 RX8 yX8_eventAt wsX8_eventAt) := goodIn_app (goodIn_of _ (by decide +kernel)) ggL_eventAt_X8_eventAt
theorem dL_eventAt_0 : decode cL_eventAt 0 = .ok (.aload_n 2, 1) := by decide +kernel
theorem dL_eventAt_1 : decode cL_eventAt 1 = .ok (.iconst 0, 1) := by decide +kernel
theorem dL_eventAt_2 : decode cL_eventAt 2 = .ok (.aload_n 0, 1) := by decide +kernel
theorem dL_eventAt_3 : decode cL_eventAt 3 = .ok (.iload_n 1, 1) := by decide +kernel
theorem dL_eventAt_4 : decode cL_eventAt 4 = .ok (.invokevirtual 83, 3) := by decide +kernel
theorem dL_eventAt_7 : decode cL_eventAt 7 = .ok (.i2l, 1) := by decide +kernel
theorem dL_eventAt_8 : decode cL_eventAt 8 = .ok (.lastore, 1) := by decide +kernel
theorem dL_eventAt_9 : decode cL_eventAt 9 = .ok (.goto 6, 3) := by decide +kernel
theorem dL_eventAt_12 : decode cL_eventAt 12 = .ok (.astore_n 3, 1) := by decide +kernel
theorem dL_eventAt_13 : decode cL_eventAt 13 = .ok (.iconst 1, 1) := by decide +kernel
theorem dL_eventAt_14 : decode cL_eventAt 14 = .ok (.ireturn, 1) := by decide +kernel
theorem dL_eventAt_15 : decode cL_eventAt 15 = .ok (.iconst 0, 1) := by decide +kernel
theorem dL_eventAt_16 : decode cL_eventAt 16 = .ok (.ireturn, 1) := by decide +kernel
set_option maxRecDepth 20000 in
theorem ggL_aliveShare_X8_aliveShare : GoodIn wsL_aliveShare wsX8_aliveShare := goodIn_ca (goodIn_r _ [6, 7, 8, 9, 10, 11, 12, 13, 14, 15, 16, 17, 18, 19, 20, 21, 22, 23, 24, 25, 26, 27, 28, 29, 30, 31, 32, 33, 34, 35, 36, 37, 38, 39, 40] (by decide +kernel) (by decide +kernel)) (goodIn_sub (fun _ h => List.mem_cons_of_mem _ (List.mem_append_right _ h)) (by decide +kernel))
set_option maxRecDepth 20000 in
theorem gL_aliveShare_X8_aliveShare : GoodIn wsL_aliveShare (wsV RL 87 RX8 yX8_aliveShare wsX8_aliveShare) := goodIn_app (goodIn_of _ (by decide +kernel)) ggL_aliveShare_X8_aliveShare
theorem dL_aliveShare_0 : decode cL_aliveShare 0 = .ok (.aload_n 1, 1) := by decide +kernel
theorem dL_aliveShare_1 : decode cL_aliveShare 1 = .ok (.iconst 0, 1) := by decide +kernel
theorem dL_aliveShare_2 : decode cL_aliveShare 2 = .ok (.aload_n 0, 1) := by decide +kernel
theorem dL_aliveShare_3 : decode cL_aliveShare 3 = .ok (.invokevirtual 87, 3) := by decide +kernel
theorem dL_aliveShare_6 : decode cL_aliveShare 6 = .ok (.f2d, 1) := by decide +kernel
theorem dL_aliveShare_7 : decode cL_aliveShare 7 = .ok (.dastore, 1) := by decide +kernel
theorem dL_aliveShare_8 : decode cL_aliveShare 8 = .ok (.goto 6, 3) := by decide +kernel
theorem dL_aliveShare_11 : decode cL_aliveShare 11 = .ok (.astore_n 2, 1) := by decide +kernel
theorem dL_aliveShare_12 : decode cL_aliveShare 12 = .ok (.iconst 1, 1) := by decide +kernel
theorem dL_aliveShare_13 : decode cL_aliveShare 13 = .ok (.ireturn, 1) := by decide +kernel
theorem dL_aliveShare_14 : decode cL_aliveShare 14 = .ok (.iconst 0, 1) := by decide +kernel
theorem dL_aliveShare_15 : decode cL_aliveShare 15 = .ok (.ireturn, 1) := by decide +kernel
set_option maxRecDepth 20000 in
theorem ggL_meanOxygen_X8_meanOxygen : GoodIn wsL_meanOxygen wsX8_meanOxygen := goodIn_ca (goodIn_ca (goodIn_r _ [6, 7, 8, 9, 10, 11, 12, 13, 14, 15, 16, 17, 18, 19, 20, 21, 22, 23, 24, 25, 26, 27, 28, 29, 30, 31, 32, 33, 34, 35, 36, 37, 38, 39] (by decide +kernel) (by decide +kernel)) (goodIn_sub (fun _ h => List.mem_cons_of_mem _ (List.mem_append_right _ h)) (by decide +kernel))) (goodIn_sub (fun _ h => List.mem_cons_of_mem _ (List.mem_append_left _ (List.mem_append_right _ h))) (by decide +kernel))
set_option maxRecDepth 20000 in
theorem gL_meanOxygen_X8_meanOxygen : GoodIn wsL_meanOxygen (wsV RL 91 RX8 yX8_meanOxygen wsX8_meanOxygen) := goodIn_app (goodIn_of _ (by decide +kernel)) ggL_meanOxygen_X8_meanOxygen
theorem dL_meanOxygen_0 : decode cL_meanOxygen 0 = .ok (.aload_n 1, 1) := by decide +kernel
theorem dL_meanOxygen_1 : decode cL_meanOxygen 1 = .ok (.iconst 0, 1) := by decide +kernel
theorem dL_meanOxygen_2 : decode cL_meanOxygen 2 = .ok (.aload_n 0, 1) := by decide +kernel
theorem dL_meanOxygen_3 : decode cL_meanOxygen 3 = .ok (.invokevirtual 91, 3) := by decide +kernel
theorem dL_meanOxygen_6 : decode cL_meanOxygen 6 = .ok (.dastore, 1) := by decide +kernel
theorem dL_meanOxygen_7 : decode cL_meanOxygen 7 = .ok (.goto 6, 3) := by decide +kernel
theorem dL_meanOxygen_10 : decode cL_meanOxygen 10 = .ok (.astore_n 2, 1) := by decide +kernel
theorem dL_meanOxygen_11 : decode cL_meanOxygen 11 = .ok (.iconst 1, 1) := by decide +kernel
theorem dL_meanOxygen_12 : decode cL_meanOxygen 12 = .ok (.ireturn, 1) := by decide +kernel
theorem dL_meanOxygen_13 : decode cL_meanOxygen 13 = .ok (.iconst 0, 1) := by decide +kernel
theorem dL_meanOxygen_14 : decode cL_meanOxygen 14 = .ok (.ireturn, 1) := by decide +kernel
set_option maxRecDepth 20000 in
theorem ggL_law_X8_init : GoodIn wsL_law wsX8_init := goodIn_r _ [10, 11, 12, 13, 14, 15, 16, 17, 18, 19, 20, 21, 22, 23, 24, 25, 26, 27, 28, 29, 30, 31, 32, 33, 34, 35, 36, 37, 38, 39, 40, 41, 42, 43, 44, 45, 46, 47, 48, 49, 50, 51, 52, 53, 54, 55, 56, 57, 58, 59, 60, 61, 62, 63, 64, 65, 66, 67, 68, 69, 70, 71, 72, 73, 74, 75, 76, 77, 78, 79, 80, 81, 82, 83, 84, 85, 86, 87, 88, 89, 90, 91, 92, 93, 94, 95, 96, 97, 98, 99, 100, 101, 102, 103, 1184, 1185, 1186, 1187, 1188, 1189, 1190, 1191, 1192, 1193, 1194, 1195, 1196, 1197, 1180, 1181, 1198, 1199, 1200, 1201, 1202, 1203, 1204, 1205, 1206, 1207, 1208, 1209, 1210, 1211, 1212, 1213, 1214, 1215, 1216, 1217, 1218, 1219, 1220, 1221, 1222, 1223, 1224, 1225, 1226, 1227, 1228, 1229, 1230] (by decide +kernel) (by decide +kernel)
set_option maxRecDepth 20000 in
theorem gL_law_X8_init : GoodIn wsL_law (wsX8_init) := ggL_law_X8_init
set_option maxRecDepth 20000 in
theorem ggL_law_X15_init : GoodIn wsL_law wsX15_init := goodIn_r _ [106, 107, 12, 13, 108, 109, 110, 111, 112, 113, 114, 115, 116, 117, 118, 119, 120, 121, 122, 123, 124, 125, 126, 127, 128, 129, 130, 131, 132, 133, 134, 135, 136, 137, 138, 139, 140, 141, 142, 143, 144, 145, 146, 1231, 1232, 1233, 1234, 1235, 1236, 1237, 1238, 1239, 1240, 1241, 1242, 1243, 1244, 1182, 1183, 1245, 1246, 1247] (by decide +kernel) (by decide +kernel)
set_option maxRecDepth 20000 in
theorem gL_law_X15_init : GoodIn wsL_law (wsX15_init) := ggL_law_X15_init
set_option maxRecDepth 20000 in
theorem ggL_law_L_addRoom : GoodIn wsL_law wsL_addRoom := goodIn_ca (goodIn_ca (goodIn_ca (goodIn_r _ [150, 151, 152, 153, 154, 155, 2, 156, 157, 158, 17, 159, 160, 161, 162, 163, 164, 165, 166, 167, 168, 25, 169, 170, 171, 172, 173, 174, 59, 1180, 1181, 1184, 1185, 1186, 1187, 1188, 1189, 1190, 1191, 1192, 1193, 1194, 1195, 1196, 1197, 1198, 1199, 1200, 1201, 1202] (by decide +kernel) (by decide +kernel)) (goodIn_sub (fun _ h => List.mem_append_left _ (List.mem_append_left _ (List.mem_append_left _ (List.mem_append_left _ (List.mem_append_left _ (List.mem_append_right _ h)))))) (by decide +kernel))) (goodIn_sub (fun _ h => List.mem_append_left _ (List.mem_append_left _ (List.mem_append_left _ (List.mem_append_left _ (List.mem_append_right _ h))))) (by decide +kernel))) (goodIn_sub (fun _ h => List.mem_append_left _ (List.mem_append_left _ (List.mem_append_left _ (List.mem_append_right _ h)))) (by decide +kernel))
set_option maxRecDepth 20000 in
theorem gL_law_L_addRoom : GoodIn wsL_law (va_wsS RL 99 yL_addRoom wsL_addRoom) := goodIn_app (goodIn_of _ (by decide +kernel)) ggL_law_L_addRoom
set_option maxRecDepth 20000 in
theorem ggL_law_X15_addRoom : GoodIn wsL_law wsX15_addRoom := goodIn_r _ [178, 111, 179, 180, 181, 182, 183, 5, 184, 185, 186, 187, 188, 189, 190, 191, 192, 117, 193, 194, 195, 196, 197, 198, 199, 200, 201, 202, 203, 204, 205, 206, 207, 208, 209, 210, 211, 12, 13, 212, 213, 214, 215, 216, 217, 136, 218, 219, 220, 221, 222, 223, 224, 225, 226, 227, 228, 229, 135, 230, 231, 232, 233, 234, 235, 236, 237, 238, 239, 240, 241, 242, 243, 244, 245, 246, 247, 248, 249, 250, 251, 252, 253, 254, 255, 256, 257, 258, 259, 260, 261, 262, 263, 1182, 1183, 1231, 1232, 1233, 1234, 1235, 1236, 1237, 1238, 1239, 1240, 1241, 1242, 1243, 1244, 1245, 1246, 1247, 1248] (by decide +kernel) (by decide +kernel)
set_option maxRecDepth 20000 in
theorem gL_law_X15_addRoom : GoodIn wsL_law (wsV RL 104 RX15 yX15_addRoom wsX15_addRoom) := goodIn_app (goodIn_of _ (by decide +kernel)) ggL_law_X15_addRoom
set_option maxRecDepth 20000 in
theorem ggL_law_X15_thrown : GoodIn wsL_law wsX15_thrown := goodIn_r _ [267, 189, 1182, 1183] (by decide +kernel) (by decide +kernel)
set_option maxRecDepth 20000 in
theorem gL_law_X15_thrown : GoodIn wsL_law (wsV RL 105 RX15 yX15_thrown wsX15_thrown) := goodIn_app (goodIn_of _ (by decide +kernel)) ggL_law_X15_thrown
set_option maxRecDepth 20000 in
theorem ggL_law_L_addHatch : GoodIn wsL_law wsL_addHatch := goodIn_ca (goodIn_ca (goodIn_ca (goodIn_ca (goodIn_r _ [270, 271, 151, 152, 272, 273, 274, 2, 275, 164, 165, 157, 158, 17, 276, 277, 278, 279, 280, 159, 281, 282, 283, 284, 285, 286, 287, 288, 289, 29, 290, 291, 292, 293, 294, 295, 65, 66, 68, 1180, 1181, 1184, 1185, 1186, 1187, 1188, 1189, 1190, 1191, 1192, 1193, 1194, 1195, 1196, 1197, 1198, 1199, 1200, 1201, 1202, 1203, 1204, 1205, 1206] (by decide +kernel) (by decide +kernel)) (goodIn_sub (fun _ h => List.mem_append_left _ (List.mem_append_left _ (List.mem_append_left _ (List.mem_append_left _ (List.mem_append_left _ (List.mem_append_right _ h)))))) (by decide +kernel))) (goodIn_sub (fun _ h => List.mem_append_left _ (List.mem_append_left _ (List.mem_append_left _ (List.mem_append_right _ h)))) (by decide +kernel))) (goodIn_sub (fun _ h => List.mem_append_left _ (List.mem_append_left _ (List.mem_append_left _ (List.mem_append_left _ (List.mem_append_right _ h))))) (by decide +kernel))) (goodIn_sub (fun _ h => List.mem_append_left _ (List.mem_append_left _ (List.mem_append_right _ h))) (by decide +kernel))
set_option maxRecDepth 20000 in
theorem gL_law_L_addHatch : GoodIn wsL_law (va_wsS RL 109 yL_addHatch wsL_addHatch) := goodIn_app (goodIn_of _ (by decide +kernel)) ggL_law_L_addHatch
set_option maxRecDepth 20000 in
theorem ggL_law_X15_addHatch : GoodIn wsL_law wsX15_addHatch := goodIn_r _ [299, 111, 300, 301, 302, 303, 304, 305, 306, 5, 307, 179, 190, 191, 192, 117, 193, 194, 182, 183, 184, 185, 186, 187, 188, 189, 308, 309, 310, 311, 12, 13, 312, 313, 314, 212, 213, 214, 215, 216, 217, 136, 218, 219, 220, 221, 222, 223, 224, 225, 226, 227, 228, 229, 135, 230, 231, 232, 233, 234, 235, 236, 237, 238, 239, 240, 241, 242, 243, 244, 245, 246, 247, 248, 249, 250, 251, 252, 253, 254, 255, 256, 257, 258, 259, 260, 261, 262, 263, 1182, 1183, 1231, 1232, 1233, 1234, 1235, 1236, 1237, 1238, 1239, 1240, 1241, 1242, 1243, 1244, 1249, 1250, 1251, 1245, 1246, 1247] (by decide +kernel) (by decide +kernel)
set_option maxRecDepth 20000 in
theorem gL_law_X15_addHatch : GoodIn wsL_law (wsV RL 112 RX15 yX15_addHatch wsX15_addHatch) := goodIn_app (goodIn_of _ (by decide +kernel)) ggL_law_X15_addHatch
set_option maxRecDepth 20000 in
theorem ggL_law_L_setHatch : GoodIn wsL_law wsL_setHatch := goodIn_ca (goodIn_ca (goodIn_r _ [317, 271, 318, 319, 320, 2, 321, 17, 276, 322, 323, 282, 283, 284, 285, 286, 1180, 1181, 1184, 1185, 1186, 1187, 1188, 1189, 1190, 1191, 1192, 1193, 1194, 1195, 1196, 1197, 1203, 1204, 1205, 1206] (by decide +kernel) (by decide +kernel)) (goodIn_sub (fun _ h => List.mem_append_left _ (List.mem_append_left _ (List.mem_append_left _ (List.mem_append_left _ (List.mem_append_left _ (List.mem_append_right _ h)))))) (by decide +kernel))) (goodIn_sub (fun _ h => List.mem_append_left _ (List.mem_append_left _ (List.mem_append_right _ h))) (by decide +kernel))
set_option maxRecDepth 20000 in
theorem gL_law_L_setHatch : GoodIn wsL_law (va_wsS RL 113 yL_setHatch wsL_setHatch) := goodIn_app (goodIn_of _ (by decide +kernel)) ggL_law_L_setHatch
set_option maxRecDepth 20000 in
theorem ggL_law_X15_setHatch : GoodIn wsL_law wsX15_setHatch := goodIn_r _ [327, 111, 300, 328, 329, 330, 331, 332, 5, 333, 190, 191, 192, 117, 193, 194, 182, 183, 184, 185, 186, 187, 188, 189, 334, 335, 336, 337, 338, 339, 340, 341, 342, 343, 344, 345, 346, 347, 348, 349, 136, 1182, 1183, 1231, 1232, 1233, 1234, 1235, 1236, 1237, 1238, 1239, 1240, 1241, 1242, 1243, 1244, 1249, 1250, 1251, 1245, 1246, 1247] (by decide +kernel) (by decide +kernel)
set_option maxRecDepth 20000 in
theorem gL_law_X15_setHatch : GoodIn wsL_law (wsV RL 116 RX15 yX15_setHatch wsX15_setHatch) := goodIn_app (goodIn_of _ (by decide +kernel)) ggL_law_X15_setHatch
set_option maxRecDepth 20000 in
theorem ggL_law_L_setLeak : GoodIn wsL_law wsL_setLeak := goodIn_ca (goodIn_ca (goodIn_ca (goodIn_r _ [352, 271, 151, 353, 354, 355, 2, 356, 17, 159, 357, 277, 278, 279, 280, 281, 282, 283, 284, 285, 286, 161, 162, 163, 164, 165, 1180, 1181, 1184, 1185, 1186, 1187, 1188, 1189, 1190, 1191, 1192, 1193, 1194, 1195, 1196, 1197, 1198, 1199, 1200, 1201, 1202] (by decide +kernel) (by decide +kernel)) (goodIn_sub (fun _ h => List.mem_append_left _ (List.mem_append_left _ (List.mem_append_left _ (List.mem_append_left _ (List.mem_append_left _ (List.mem_append_right _ h)))))) (by decide +kernel))) (goodIn_sub (fun _ h => List.mem_append_left _ (List.mem_append_left _ (List.mem_append_right _ h))) (by decide +kernel))) (goodIn_sub (fun _ h => List.mem_append_left _ (List.mem_append_left _ (List.mem_append_left _ (List.mem_append_right _ h)))) (by decide +kernel))
set_option maxRecDepth 20000 in
theorem gL_law_L_setLeak : GoodIn wsL_law (va_wsS RL 117 yL_setLeak wsL_setLeak) := goodIn_app (goodIn_of _ (by decide +kernel)) ggL_law_L_setLeak
set_option maxRecDepth 20000 in
theorem ggL_law_X15_setLeak : GoodIn wsL_law wsX15_setLeak := goodIn_r _ [361, 111, 181, 362, 304, 305, 306, 5, 307, 179, 190, 191, 192, 117, 193, 194, 182, 183, 184, 185, 186, 187, 188, 189, 195, 196, 197, 198, 199, 200, 201, 202, 203, 204, 205, 206, 207, 208, 209, 210, 211, 12, 13, 363, 364, 365, 366, 136, 338, 339, 340, 341, 342, 343, 344, 345, 346, 347, 348, 349, 367, 368, 369, 370, 1182, 1183, 1231, 1232, 1233, 1234, 1235, 1236, 1237, 1238, 1239, 1240, 1241, 1242, 1243, 1244, 1245, 1246, 1247, 1248] (by decide +kernel) (by decide +kernel)
set_option maxRecDepth 20000 in
theorem gL_law_X15_setLeak : GoodIn wsL_law (wsV RL 119 RX15 yX15_setLeak wsX15_setLeak) := goodIn_app (goodIn_of _ (by decide +kernel)) ggL_law_X15_setLeak
set_option maxRecDepth 20000 in
theorem ggL_law_L_addDevice : GoodIn wsL_law wsL_addDevice := goodIn_ca (goodIn_ca (goodIn_ca (goodIn_ca (goodIn_r _ [373, 151, 271, 152, 374, 375, 376, 2, 377, 164, 165, 157, 158, 17, 378, 277, 278, 279, 280, 159, 281, 282, 283, 284, 285, 286, 379, 380, 381, 33, 382, 383, 384, 385, 386, 387, 73, 74, 1180, 1181, 1184, 1185, 1186, 1187, 1188, 1189, 1190, 1191, 1192, 1193, 1194, 1195, 1196, 1197, 1198, 1199, 1200, 1201, 1202, 1207, 1208, 1209, 1210, 1211] (by decide +kernel) (by decide +kernel)) (goodIn_sub (fun _ h => List.mem_append_left _ (List.mem_append_left _ (List.mem_append_left _ (List.mem_append_left _ (List.mem_append_left _ (List.mem_append_right _ h)))))) (by decide +kernel))) (goodIn_sub (fun _ h => List.mem_append_left _ (List.mem_append_left _ (List.mem_append_left _ (List.mem_append_right _ h)))) (by decide +kernel))) (goodIn_sub (fun _ h => List.mem_append_left _ (List.mem_append_left _ (List.mem_append_left _ (List.mem_append_left _ (List.mem_append_right _ h))))) (by decide +kernel))) (goodIn_sub (fun _ h => List.mem_append_left _ (List.mem_append_left _ (List.mem_append_right _ h))) (by decide +kernel))
set_option maxRecDepth 20000 in
theorem gL_law_L_addDevice : GoodIn wsL_law (va_wsS RL 120 yL_addDevice wsL_addDevice) := goodIn_app (goodIn_of _ (by decide +kernel)) ggL_law_L_addDevice
set_option maxRecDepth 20000 in
theorem ggL_law_X15_addDevice : GoodIn wsL_law wsX15_addDevice := goodIn_r _ [391, 111, 392, 393, 394, 395, 185, 186, 187, 5, 188, 189, 304, 305, 306, 307, 179, 190, 191, 192, 117, 193, 194, 182, 183, 184, 396, 397, 398, 399, 12, 13, 400, 401, 402, 403, 212, 213, 214, 215, 216, 217, 136, 218, 219, 220, 221, 222, 223, 224, 225, 226, 227, 228, 229, 135, 230, 231, 232, 233, 234, 235, 236, 237, 238, 239, 240, 241, 242, 243, 244, 245, 246, 247, 248, 249, 250, 251, 252, 253, 254, 255, 256, 257, 258, 259, 260, 261, 262, 263, 1182, 1183, 1231, 1232, 1233, 1234, 1235, 1236, 1237, 1238, 1239, 1240, 1241, 1242, 1243, 1244, 1252, 1253, 1254, 1255, 1245, 1246, 1247] (by decide +kernel) (by decide +kernel)
set_option maxRecDepth 20000 in
theorem gL_law_X15_addDevice : GoodIn wsL_law (wsV RL 123 RX15 yX15_addDevice wsX15_addDevice) := goodIn_app (goodIn_of _ (by decide +kernel)) ggL_law_X15_addDevice
set_option maxRecDepth 20000 in
theorem ggL_law_L_setDevice : GoodIn wsL_law wsL_setDevice := goodIn_ca (goodIn_ca (goodIn_ca (goodIn_r _ [406, 271, 407, 408, 409, 410, 2, 411, 412, 413, 17, 378, 414, 415, 416, 417, 282, 283, 284, 285, 286, 1180, 1181, 1184, 1185, 1186, 1187, 1188, 1189, 1190, 1191, 1192, 1193, 1194, 1195, 1196, 1197, 1207, 1208, 1209, 1210, 1211] (by decide +kernel) (by decide +kernel)) (goodIn_sub (fun _ h => List.mem_append_left _ (List.mem_append_left _ (List.mem_append_left _ (List.mem_append_left _ (List.mem_append_left _ (List.mem_append_right _ h)))))) (by decide +kernel))) (goodIn_sub (fun _ h => List.mem_append_left _ (List.mem_append_right _ h)) (by decide +kernel))) (goodIn_sub (fun _ h => List.mem_append_left _ (List.mem_append_left _ (List.mem_append_right _ h))) (by decide +kernel))
set_option maxRecDepth 20000 in
theorem gL_law_L_setDevice : GoodIn wsL_law (va_wsS RL 124 yL_setDevice wsL_setDevice) := goodIn_app (goodIn_of _ (by decide +kernel)) ggL_law_L_setDevice
set_option maxRecDepth 20000 in
theorem ggL_law_X15_setDevice : GoodIn wsL_law wsX15_setDevice := goodIn_r _ [421, 111, 392, 422, 423, 424, 425, 426, 427, 428, 5, 429, 190, 191, 192, 117, 193, 194, 182, 183, 184, 185, 186, 187, 188, 189, 334, 335, 336, 337, 338, 339, 340, 341, 342, 343, 344, 345, 346, 347, 348, 349, 136, 1182, 1183, 1231, 1232, 1233, 1234, 1235, 1236, 1237, 1238, 1239, 1240, 1241, 1242, 1243, 1244, 1252, 1253, 1254, 1255, 1245, 1246, 1247] (by decide +kernel) (by decide +kernel)
set_option maxRecDepth 20000 in
theorem gL_law_X15_setDevice : GoodIn wsL_law (wsV RL 126 RX15 yX15_setDevice wsX15_setDevice) := goodIn_app (goodIn_of _ (by decide +kernel)) ggL_law_X15_setDevice
set_option maxRecDepth 20000 in
theorem ggL_law_L_setPanels : GoodIn wsL_law wsL_setPanels := goodIn_ca (goodIn_ca (goodIn_r _ [432, 151, 433, 434, 435, 2, 436, 17, 437, 161, 162, 163, 164, 165, 1180, 1181, 1184, 1185, 1186, 1187, 1188, 1189, 1190, 1191, 1192, 1193, 1194, 1195, 1196, 1197] (by decide +kernel) (by decide +kernel)) (goodIn_sub (fun _ h => List.mem_append_left _ (List.mem_append_left _ (List.mem_append_left _ (List.mem_append_left _ (List.mem_append_left _ (List.mem_append_right _ h)))))) (by decide +kernel))) (goodIn_sub (fun _ h => List.mem_append_left _ (List.mem_append_left _ (List.mem_append_left _ (List.mem_append_right _ h)))) (by decide +kernel))
set_option maxRecDepth 20000 in
theorem gL_law_L_setPanels : GoodIn wsL_law (va_wsS RL 127 yL_setPanels wsL_setPanels) := goodIn_app (goodIn_of _ (by decide +kernel)) ggL_law_L_setPanels
set_option maxRecDepth 20000 in
theorem ggL_law_X15_setPanels : GoodIn wsL_law wsX15_setPanels := goodIn_r _ [441, 111, 442, 182, 183, 5, 184, 185, 186, 187, 188, 189, 1182, 1183, 1231, 1232, 1233, 1234, 1235, 1236, 1237, 1238, 1239, 1240, 1241, 1242, 1243, 1244] (by decide +kernel) (by decide +kernel)
set_option maxRecDepth 20000 in
theorem gL_law_X15_setPanels : GoodIn wsL_law (wsV RL 129 RX15 yX15_setPanels wsX15_setPanels) := goodIn_app (goodIn_of _ (by decide +kernel)) ggL_law_X15_setPanels
set_option maxRecDepth 20000 in
theorem ggL_law_L_board : GoodIn wsL_law wsL_board := goodIn_ca (goodIn_ca (goodIn_ca (goodIn_r _ [445, 271, 152, 446, 447, 448, 2, 449, 157, 158, 17, 450, 277, 278, 279, 280, 159, 281, 282, 283, 284, 285, 286, 451, 452, 453, 37, 454, 455, 456, 457, 458, 459, 80, 81, 1180, 1181, 1184, 1185, 1186, 1187, 1188, 1189, 1190, 1191, 1192, 1193, 1194, 1195, 1196, 1197, 1198, 1199, 1200, 1201, 1202, 1212, 1213, 1214, 1215, 1216, 1217] (by decide +kernel) (by decide +kernel)) (goodIn_sub (fun _ h => List.mem_append_left _ (List.mem_append_left _ (List.mem_append_left _ (List.mem_append_left _ (List.mem_append_left _ (List.mem_append_right _ h)))))) (by decide +kernel))) (goodIn_sub (fun _ h => List.mem_append_left _ (List.mem_append_left _ (List.mem_append_left _ (List.mem_append_left _ (List.mem_append_right _ h))))) (by decide +kernel))) (goodIn_sub (fun _ h => List.mem_append_left _ (List.mem_append_left _ (List.mem_append_right _ h))) (by decide +kernel))
set_option maxRecDepth 20000 in
theorem gL_law_L_board : GoodIn wsL_law (va_wsS RL 130 yL_board wsL_board) := goodIn_app (goodIn_of _ (by decide +kernel)) ggL_law_L_board
set_option maxRecDepth 20000 in
theorem ggL_law_X15_board : GoodIn wsL_law wsX15_board := goodIn_r _ [463, 111, 464, 465, 466, 467, 304, 305, 306, 5, 307, 179, 190, 191, 192, 117, 193, 194, 182, 183, 184, 185, 186, 187, 188, 189, 468, 469, 470, 471, 12, 13, 472, 473, 474, 212, 213, 214, 215, 216, 217, 136, 218, 219, 220, 221, 222, 223, 224, 225, 226, 227, 228, 229, 135, 230, 231, 232, 233, 234, 235, 236, 237, 238, 239, 240, 241, 242, 243, 244, 245, 246, 247, 248, 249, 250, 251, 252, 253, 254, 255, 256, 257, 258, 259, 260, 261, 262, 263, 1182, 1183, 1231, 1232, 1233, 1234, 1235, 1236, 1237, 1238, 1239, 1240, 1241, 1242, 1243, 1244, 1256, 1257, 1258, 1245, 1246, 1247] (by decide +kernel) (by decide +kernel)
set_option maxRecDepth 20000 in
theorem gL_law_X15_board : GoodIn wsL_law (wsV RL 132 RX15 yX15_board wsX15_board) := goodIn_app (goodIn_of _ (by decide +kernel)) ggL_law_X15_board
set_option maxRecDepth 20000 in
theorem ggL_law_L_move : GoodIn wsL_law wsL_move := goodIn_ca (goodIn_ca (goodIn_ca (goodIn_ca (goodIn_r _ [477, 271, 152, 407, 478, 479, 480, 2, 481, 412, 413, 17, 450, 482, 483, 276, 282, 283, 284, 285, 286, 277, 278, 279, 280, 159, 281, 484, 485, 486, 487, 157, 158, 488, 489, 490, 491, 29, 492, 291, 65, 66, 68, 1180, 1181, 1184, 1185, 1186, 1187, 1188, 1189, 1190, 1191, 1192, 1193, 1194, 1195, 1196, 1197, 1212, 1213, 1214, 1215, 1216, 1217, 1198, 1199, 1200, 1201, 1202, 1203, 1204, 1205, 1206] (by decide +kernel) (by decide +kernel)) (goodIn_sub (fun _ h => List.mem_append_left _ (List.mem_append_left _ (List.mem_append_left _ (List.mem_append_left _ (List.mem_append_left _ (List.mem_append_right _ h)))))) (by decide +kernel))) (goodIn_sub (fun _ h => List.mem_append_left _ (List.mem_append_right _ h)) (by decide +kernel))) (goodIn_sub (fun _ h => List.mem_append_left _ (List.mem_append_left _ (List.mem_append_right _ h))) (by decide +kernel))) (goodIn_sub (fun _ h => List.mem_append_left _ (List.mem_append_left _ (List.mem_append_left _ (List.mem_append_left _ (List.mem_append_right _ h))))) (by decide +kernel))
set_option maxRecDepth 20000 in
theorem gL_law_L_move : GoodIn wsL_law (va_wsS RL 133 yL_move wsL_move) := goodIn_app (goodIn_of _ (by decide +kernel)) ggL_law_L_move
set_option maxRecDepth 20000 in
theorem ggL_law_X15_move : GoodIn wsL_law wsX15_move := goodIn_r _ [496, 111, 464, 497, 498, 300, 328, 329, 499, 500, 190, 191, 192, 117, 193, 194, 182, 183, 5, 184, 304, 305, 306, 307, 179, 185, 186, 187, 188, 189, 334, 335, 336, 337, 338, 339, 340, 341, 342, 343, 344, 345, 346, 347, 348, 349, 136, 501, 502, 503, 504, 505, 506, 507, 508, 509, 510, 511, 512, 12, 13, 513, 514, 217, 515, 516, 517, 518, 519, 520, 521, 522, 523, 524, 525, 526, 527, 528, 529, 1182, 1183, 1231, 1232, 1233, 1234, 1235, 1236, 1237, 1238, 1239, 1240, 1241, 1242, 1243, 1244, 1256, 1257, 1258, 1249, 1250, 1251, 1245, 1246, 1247, 1259, 1260, 1261, 1262] (by decide +kernel) (by decide +kernel)
set_option maxRecDepth 20000 in
theorem gL_law_X15_move : GoodIn wsL_law (wsV RL 135 RX15 yX15_move wsX15_move) := goodIn_app (goodIn_of _ (by decide +kernel)) ggL_law_X15_move
set_option maxRecDepth 20000 in
theorem ggL_law_L_setTask : GoodIn wsL_law wsL_setTask := goodIn_ca (goodIn_ca (goodIn_ca (goodIn_ca (goodIn_ca (goodIn_r _ [532, 271, 151, 152, 407, 533, 534, 535, 2, 536, 164, 165, 412, 413, 17, 450, 482, 415, 537, 282, 283, 284, 285, 286, 484, 485, 486, 487, 157, 158, 488, 1180, 1181, 1184, 1185, 1186, 1187, 1188, 1189, 1190, 1191, 1192, 1193, 1194, 1195, 1196, 1197, 1212, 1213, 1214, 1215, 1216, 1217] (by decide +kernel) (by decide +kernel)) (goodIn_sub (fun _ h => List.mem_append_left _ (List.mem_append_left _ (List.mem_append_left _ (List.mem_append_left _ (List.mem_append_left _ (List.mem_append_right _ h)))))) (by decide +kernel))) (goodIn_sub (fun _ h => List.mem_append_left _ (List.mem_append_left _ (List.mem_append_left _ (List.mem_append_right _ h)))) (by decide +kernel))) (goodIn_sub (fun _ h => List.mem_append_left _ (List.mem_append_right _ h)) (by decide +kernel))) (goodIn_sub (fun _ h => List.mem_append_left _ (List.mem_append_left _ (List.mem_append_right _ h))) (by decide +kernel))) (goodIn_sub (fun _ h => List.mem_append_left _ (List.mem_append_left _ (List.mem_append_left _ (List.mem_append_left _ (List.mem_append_right _ h))))) (by decide +kernel))
set_option maxRecDepth 20000 in
theorem gL_law_L_setTask : GoodIn wsL_law (va_wsS RL 136 yL_setTask wsL_setTask) := goodIn_app (goodIn_of _ (by decide +kernel)) ggL_law_L_setTask
set_option maxRecDepth 20000 in
theorem ggL_law_X15_setTask : GoodIn wsL_law wsX15_setTask := goodIn_r _ [541, 111, 464, 497, 498, 423, 542, 543, 544, 545, 5, 546, 190, 191, 192, 117, 193, 194, 182, 183, 184, 185, 186, 187, 188, 189, 334, 335, 336, 337, 338, 339, 340, 341, 342, 343, 344, 345, 346, 347, 348, 349, 136, 1182, 1183, 1231, 1232, 1233, 1234, 1235, 1236, 1237, 1238, 1239, 1240, 1241, 1242, 1243, 1244, 1256, 1257, 1258, 1245, 1246, 1247] (by decide +kernel) (by decide +kernel)
set_option maxRecDepth 20000 in
theorem gL_law_X15_setTask : GoodIn wsL_law (wsV RL 139 RX15 yX15_setTask wsX15_setTask) := goodIn_app (goodIn_of _ (by decide +kernel)) ggL_law_X15_setTask
set_option maxRecDepth 20000 in
theorem ggL_law_L_send : GoodIn wsL_law wsL_send := goodIn_ca (goodIn_ca (goodIn_ca (goodIn_ca (goodIn_ca (goodIn_r _ [549, 151, 271, 152, 407, 550, 551, 552, 2, 553, 164, 165, 157, 158, 412, 413, 17, 378, 414, 276, 322, 554, 415, 555, 161, 162, 163, 282, 283, 284, 285, 286, 556, 557, 558, 41, 559, 560, 561, 562, 563, 564, 87, 88, 89, 90, 1180, 1181, 1184, 1185, 1186, 1187, 1188, 1189, 1190, 1191, 1192, 1193, 1194, 1195, 1196, 1197, 1207, 1208, 1209, 1210, 1211, 1203, 1204, 1205, 1206, 1218, 1219, 1220, 1221, 1222] (by decide +kernel) (by decide +kernel)) (goodIn_sub (fun _ h => List.mem_append_left _ (List.mem_append_left _ (List.mem_append_left _ (List.mem_append_left _ (List.mem_append_left _ (List.mem_append_right _ h)))))) (by decide +kernel))) (goodIn_sub (fun _ h => List.mem_append_left _ (List.mem_append_left _ (List.mem_append_left _ (List.mem_append_right _ h)))) (by decide +kernel))) (goodIn_sub (fun _ h => List.mem_append_left _ (List.mem_append_left _ (List.mem_append_left _ (List.mem_append_left _ (List.mem_append_right _ h))))) (by decide +kernel))) (goodIn_sub (fun _ h => List.mem_append_left _ (List.mem_append_right _ h)) (by decide +kernel))) (goodIn_sub (fun _ h => List.mem_append_left _ (List.mem_append_left _ (List.mem_append_right _ h))) (by decide +kernel))
set_option maxRecDepth 20000 in
theorem gL_law_L_send : GoodIn wsL_law (va_wsS RL 140 yL_send wsL_send) := goodIn_app (goodIn_of _ (by decide +kernel)) ggL_law_L_send
set_option maxRecDepth 20000 in
theorem ggL_law_X15_send : GoodIn wsL_law wsX15_send := goodIn_r _ [568, 111, 569, 423, 570, 571, 572, 573, 182, 183, 5, 184, 185, 186, 187, 188, 189, 426, 427, 428, 429, 392, 190, 191, 192, 117, 193, 194, 330, 331, 332, 333, 300, 574, 575, 576, 577, 12, 13, 578, 579, 580, 581, 212, 213, 214, 215, 216, 217, 136, 218, 219, 220, 221, 222, 223, 224, 225, 226, 227, 228, 229, 135, 230, 231, 232, 233, 234, 235, 236, 237, 238, 239, 240, 241, 242, 243, 244, 245, 246, 247, 248, 249, 250, 251, 252, 253, 254, 255, 256, 257, 258, 259, 260, 261, 262, 263, 1182, 1183, 1231, 1232, 1233, 1234, 1235, 1236, 1237, 1238, 1239, 1240, 1241, 1242, 1243, 1244, 1263, 1264, 1265, 1266, 1245, 1246, 1247] (by decide +kernel) (by decide +kernel)
set_option maxRecDepth 20000 in
theorem gL_law_X15_send : GoodIn wsL_law (wsV RL 143 RX15 yX15_send wsX15_send) := goodIn_app (goodIn_of _ (by decide +kernel)) ggL_law_X15_send
set_option maxRecDepth 20000 in
theorem ggL_law_L_approach : GoodIn wsL_law wsL_approach := goodIn_ca (goodIn_ca (goodIn_ca (goodIn_r _ [584, 151, 152, 585, 586, 587, 2, 588, 157, 158, 17, 589, 161, 162, 163, 164, 165, 590, 591, 592, 45, 593, 594, 595, 596, 597, 598, 94, 97, 96, 1180, 1181, 1184, 1185, 1186, 1187, 1188, 1189, 1190, 1191, 1192, 1193, 1194, 1195, 1196, 1197, 1223, 1224, 1225, 1226, 1227, 1228] (by decide +kernel) (by decide +kernel)) (goodIn_sub (fun _ h => List.mem_append_left _ (List.mem_append_left _ (List.mem_append_left _ (List.mem_append_left _ (List.mem_append_left _ (List.mem_append_right _ h)))))) (by decide +kernel))) (goodIn_sub (fun _ h => List.mem_append_left _ (List.mem_append_left _ (List.mem_append_left _ (List.mem_append_left _ (List.mem_append_right _ h))))) (by decide +kernel))) (goodIn_sub (fun _ h => List.mem_append_left _ (List.mem_append_left _ (List.mem_append_left _ (List.mem_append_right _ h)))) (by decide +kernel))
set_option maxRecDepth 20000 in
theorem gL_law_L_approach : GoodIn wsL_law (va_wsS RL 144 yL_approach wsL_approach) := goodIn_app (goodIn_of _ (by decide +kernel)) ggL_law_L_approach
set_option maxRecDepth 20000 in
theorem ggL_law_X15_approach : GoodIn wsL_law wsX15_approach := goodIn_r _ [602, 111, 603, 604, 605, 606, 182, 183, 5, 184, 185, 186, 187, 188, 189, 190, 191, 192, 117, 193, 194, 607, 608, 609, 610, 12, 13, 611, 612, 613, 614, 212, 213, 214, 215, 216, 217, 136, 218, 219, 220, 221, 222, 223, 224, 225, 226, 227, 228, 229, 135, 230, 231, 232, 233, 234, 235, 236, 237, 238, 239, 240, 241, 242, 243, 244, 245, 246, 247, 248, 249, 250, 251, 252, 253, 254, 255, 256, 257, 258, 259, 260, 261, 262, 263, 1182, 1183, 1231, 1232, 1233, 1234, 1235, 1236, 1237, 1238, 1239, 1240, 1241, 1242, 1243, 1244, 1267, 1268, 1269, 1270, 1245, 1246, 1247] (by decide +kernel) (by decide +kernel)
set_option maxRecDepth 20000 in
theorem gL_law_X15_approach : GoodIn wsL_law (wsV RL 146 RX15 yX15_approach wsX15_approach) := goodIn_app (goodIn_of _ (by decide +kernel)) ggL_law_X15_approach
set_option maxRecDepth 20000 in
theorem ggL_law_L_burn : GoodIn wsL_law wsL_burn := goodIn_ca (goodIn_ca (goodIn_ca (goodIn_ca (goodIn_ca (goodIn_r _ [617, 271, 151, 152, 407, 618, 619, 620, 2, 621, 157, 158, 412, 413, 17, 589, 622, 623, 624, 625, 232, 626, 627, 628, 282, 283, 284, 285, 286, 161, 162, 163, 164, 165, 1180, 1181, 1184, 1185, 1186, 1187, 1188, 1189, 1190, 1191, 1192, 1193, 1194, 1195, 1196, 1197, 1223, 1224, 1225, 1226, 1227, 1228] (by decide +kernel) (by decide +kernel)) (goodIn_sub (fun _ h => List.mem_append_left _ (List.mem_append_left _ (List.mem_append_left _ (List.mem_append_left _ (List.mem_append_left _ (List.mem_append_right _ h)))))) (by decide +kernel))) (goodIn_sub (fun _ h => List.mem_append_left _ (List.mem_append_left _ (List.mem_append_left _ (List.mem_append_left _ (List.mem_append_right _ h))))) (by decide +kernel))) (goodIn_sub (fun _ h => List.mem_append_left _ (List.mem_append_right _ h)) (by decide +kernel))) (goodIn_sub (fun _ h => List.mem_append_left _ (List.mem_append_left _ (List.mem_append_right _ h))) (by decide +kernel))) (goodIn_sub (fun _ h => List.mem_append_left _ (List.mem_append_left _ (List.mem_append_left _ (List.mem_append_right _ h)))) (by decide +kernel))
set_option maxRecDepth 20000 in
theorem gL_law_L_burn : GoodIn wsL_law (va_wsS RL 147 yL_burn wsL_burn) := goodIn_app (goodIn_of _ (by decide +kernel)) ggL_law_L_burn
set_option maxRecDepth 20000 in
theorem ggL_law_X15_burn : GoodIn wsL_law wsX15_burn := goodIn_r _ [632, 111, 603, 633, 634, 635, 636, 625, 232, 626, 637, 638, 639, 640, 5, 641, 190, 191, 192, 117, 193, 194, 182, 183, 184, 185, 186, 187, 188, 189, 334, 335, 336, 337, 338, 339, 340, 341, 342, 343, 344, 345, 346, 347, 348, 349, 136, 1182, 1183, 1231, 1232, 1233, 1234, 1235, 1236, 1237, 1238, 1239, 1240, 1241, 1242, 1243, 1244, 1267, 1268, 1269, 1270, 1245, 1246, 1247] (by decide +kernel) (by decide +kernel)
set_option maxRecDepth 20000 in
theorem gL_law_X15_burn : GoodIn wsL_law (wsV RL 149 RX15 yX15_burn wsX15_burn) := goodIn_app (goodIn_of _ (by decide +kernel)) ggL_law_X15_burn
set_option maxRecDepth 20000 in
theorem ggL_law_L_pass : GoodIn wsL_law wsL_pass := goodIn_ca (goodIn_ca (goodIn_ca (goodIn_r _ [644, 151, 645, 646, 647, 648, 2, 649, 650, 651, 17, 555, 161, 162, 163, 164, 165, 652, 653, 654, 16, 655, 46, 54, 26, 38, 656, 657, 658, 659, 660, 661, 42, 662, 663, 664, 665, 666, 667, 41, 668, 89, 90, 669, 670, 671, 53, 672, 673, 103, 674, 675, 676, 677, 678, 679, 680, 681, 682, 683, 684, 685, 34, 30, 686, 687, 688, 33, 689, 383, 75, 690, 691, 692, 29, 693, 291, 68, 694, 695, 696, 697, 87, 88, 698, 699, 700, 45, 701, 594, 98, 94, 95, 702, 703, 704, 705, 97, 706, 707, 708, 709, 710, 49, 50, 711, 712, 713, 714, 48, 47, 715, 716, 717, 718, 719, 720, 721, 258, 232, 259, 722, 723, 724, 725, 726, 727, 728, 729, 730, 731, 25, 732, 60, 733, 734, 735, 736, 737, 170, 738, 739, 740, 741, 59, 742, 743, 744, 745, 61, 746, 747, 748, 749, 750, 751, 752, 753, 754, 755, 756, 757, 758, 759, 760, 761, 37, 762, 455, 83, 81, 80, 82, 763, 764, 765, 766, 767, 768, 769, 770, 771, 772, 773, 774, 775, 776, 777, 778, 779, 780, 781, 782, 783, 784, 785, 786, 787, 73, 788, 789, 790, 791, 1180, 1181, 1184, 1185, 1186, 1187, 1188, 1189, 1190, 1191, 1192, 1193, 1194, 1195, 1196, 1197, 1218, 1219, 1220, 1221, 1222, 1229, 1230, 1207, 1208, 1209, 1210, 1211, 1203, 1204, 1205, 1206, 1223, 1224, 1225, 1226, 1227, 1228, 1198, 1199, 1200, 1201, 1202, 1212, 1213, 1214, 1215, 1216, 1217] (by decide +kernel) (by decide +kernel)) (goodIn_sub (fun _ h => List.mem_append_left _ (List.mem_append_left _ (List.mem_append_left _ (List.mem_append_left _ (List.mem_append_left _ (List.mem_append_right _ h)))))) (by decide +kernel))) (goodIn_sub (fun _ h => List.mem_append_right _ h) (by decide +kernel))) (goodIn_sub (fun _ h => List.mem_append_left _ (List.mem_append_left _ (List.mem_append_left _ (List.mem_append_right _ h)))) (by decide +kernel))
set_option maxRecDepth 20000 in
theorem gL_law_L_pass : GoodIn wsL_law (va_wsS RL 150 yL_pass wsL_pass) := goodIn_app (goodIn_of _ (by decide +kernel)) ggL_law_L_pass
set_option maxRecDepth 20000 in
theorem ggL_law_X15_pass : GoodIn wsL_law wsX15_pass := goodIn_r _ [795, 111, 573, 182, 183, 5, 184, 185, 186, 187, 188, 189, 796, 797, 798, 110, 799, 118, 120, 800, 801, 258, 232, 259, 121, 802, 803, 119, 123, 804, 805, 131, 130, 806, 807, 808, 809, 125, 810, 811, 812, 126, 813, 191, 192, 117, 193, 194, 814, 335, 336, 337, 338, 339, 340, 341, 342, 343, 344, 345, 346, 347, 348, 349, 136, 815, 816, 817, 818, 819, 820, 821, 822, 216, 217, 823, 261, 262, 263, 824, 825, 826, 827, 828, 829, 830, 831, 832, 833, 834, 12, 13, 835, 836, 213, 214, 215, 218, 219, 220, 221, 222, 223, 224, 225, 226, 227, 228, 229, 135, 230, 231, 233, 234, 235, 236, 237, 238, 239, 240, 241, 242, 243, 244, 245, 246, 247, 248, 249, 250, 251, 252, 253, 254, 255, 256, 257, 260, 837, 838, 839, 840, 841, 122, 842, 843, 844, 845, 846, 847, 848, 124, 849, 850, 851, 129, 852, 853, 502, 503, 504, 505, 506, 507, 508, 509, 510, 511, 512, 513, 514, 515, 854, 517, 518, 519, 520, 855, 522, 523, 524, 525, 526, 527, 528, 529, 856, 857, 858, 859, 128, 127, 860, 861, 862, 863, 864, 865, 395, 866, 402, 867, 368, 369, 197, 370, 206, 868, 869, 870, 871, 872, 196, 198, 199, 200, 201, 202, 203, 204, 205, 207, 208, 209, 210, 211, 873, 364, 365, 366, 874, 875, 876, 877, 878, 879, 880, 881, 882, 883, 884, 885, 886, 887, 888, 889, 890, 891, 892, 893, 894, 895, 896, 897, 1182, 1183, 1231, 1232, 1233, 1234, 1235, 1236, 1237, 1238, 1239, 1240, 1241, 1242, 1243, 1244, 1249, 1250, 1251, 1256, 1257, 1258, 1263, 1264, 1265, 1266, 1245, 1246, 1247, 1271, 1252, 1253, 1254, 1255, 1267, 1268, 1269, 1270, 1259, 1260, 1261, 1262, 1248] (by decide +kernel) (by decide +kernel)
set_option maxRecDepth 20000 in
theorem gL_law_X15_pass : GoodIn wsL_law (wsV RL 152 RX15 yX15_pass wsX15_pass) := goodIn_app (goodIn_of _ (by decide +kernel)) ggL_law_X15_pass
set_option maxRecDepth 20000 in
theorem ggL_law_X8_endSafe : GoodIn wsL_law wsX8_endSafe := goodIn_r _ [901, 17, 415, 1180, 1181, 1184, 1185, 1186, 1187, 1188, 1189, 1190, 1191, 1192, 1193, 1194, 1195, 1196, 1197] (by decide +kernel) (by decide +kernel)
set_option maxRecDepth 20000 in
theorem gL_law_X8_endSafe : GoodIn wsL_law (wsV RL 153 RX8 yX8_endSafe wsX8_endSafe) := goodIn_app (goodIn_of _ (by decide +kernel)) ggL_law_X8_endSafe
set_option maxRecDepth 20000 in
theorem ggL_law_X15_endSafe : GoodIn wsL_law wsX15_endSafe := goodIn_r _ [905, 111, 423, 1182, 1183, 1231, 1232, 1233, 1234, 1235, 1236, 1237, 1238, 1239, 1240, 1241, 1242, 1243, 1244] (by decide +kernel) (by decide +kernel)
set_option maxRecDepth 20000 in
theorem gL_law_X15_endSafe : GoodIn wsL_law (wsV RL 157 RX15 yX15_endSafe wsX15_endSafe) := goodIn_app (goodIn_of _ (by decide +kernel)) ggL_law_X15_endSafe
set_option maxRecDepth 20000 in
theorem ggL_law_L_oxygen : GoodIn wsL_law wsL_oxygen := goodIn_ca (goodIn_ca (goodIn_r _ [908, 271, 909, 910, 911, 2, 912, 17, 159, 913, 277, 278, 279, 280, 281, 282, 283, 284, 285, 286, 1180, 1181, 1184, 1185, 1186, 1187, 1188, 1189, 1190, 1191, 1192, 1193, 1194, 1195, 1196, 1197, 1198, 1199, 1200, 1201, 1202] (by decide +kernel) (by decide +kernel)) (goodIn_sub (fun _ h => List.mem_append_left _ (List.mem_append_left _ (List.mem_append_left _ (List.mem_append_left _ (List.mem_append_left _ (List.mem_append_right _ h)))))) (by decide +kernel))) (goodIn_sub (fun _ h => List.mem_append_left _ (List.mem_append_left _ (List.mem_append_right _ h))) (by decide +kernel))
set_option maxRecDepth 20000 in
theorem gL_law_L_oxygen : GoodIn wsL_law (va_wsS RL 158 yL_oxygen wsL_oxygen) := goodIn_app (goodIn_of _ (by decide +kernel)) ggL_law_L_oxygen
set_option maxRecDepth 20000 in
theorem ggL_law_X15_oxygen : GoodIn wsL_law wsX15_oxygen := goodIn_r _ [917, 111, 179, 362, 304, 305, 306, 5, 307, 190, 191, 192, 117, 193, 194, 182, 183, 184, 185, 186, 187, 188, 189, 334, 335, 336, 337, 338, 339, 340, 341, 342, 343, 344, 345, 346, 347, 348, 349, 136, 367, 368, 369, 197, 370, 206, 1182, 1183, 1231, 1232, 1233, 1234, 1235, 1236, 1237, 1238, 1239, 1240, 1241, 1242, 1243, 1244, 1245, 1246, 1247, 1248] (by decide +kernel) (by decide +kernel)
set_option maxRecDepth 20000 in
theorem gL_law_X15_oxygen : GoodIn wsL_law (wsV RL 160 RX15 yX15_oxygen wsX15_oxygen) := goodIn_app (goodIn_of _ (by decide +kernel)) ggL_law_X15_oxygen
set_option maxRecDepth 20000 in
theorem ggL_law_L_carbon : GoodIn wsL_law wsL_carbon := goodIn_ca (goodIn_ca (goodIn_r _ [920, 271, 921, 922, 923, 2, 924, 17, 159, 925, 277, 278, 279, 280, 281, 282, 283, 284, 285, 286, 1180, 1181, 1184, 1185, 1186, 1187, 1188, 1189, 1190, 1191, 1192, 1193, 1194, 1195, 1196, 1197, 1198, 1199, 1200, 1201, 1202] (by decide +kernel) (by decide +kernel)) (goodIn_sub (fun _ h => List.mem_append_left _ (List.mem_append_left _ (List.mem_append_left _ (List.mem_append_left _ (List.mem_append_left _ (List.mem_append_right _ h)))))) (by decide +kernel))) (goodIn_sub (fun _ h => List.mem_append_left _ (List.mem_append_left _ (List.mem_append_right _ h))) (by decide +kernel))
set_option maxRecDepth 20000 in
theorem gL_law_L_carbon : GoodIn wsL_law (va_wsS RL 161 yL_carbon wsL_carbon) := goodIn_app (goodIn_of _ (by decide +kernel)) ggL_law_L_carbon
set_option maxRecDepth 20000 in
theorem ggL_law_X15_carbon : GoodIn wsL_law wsX15_carbon := goodIn_r _ [929, 111, 180, 362, 304, 305, 306, 5, 307, 179, 190, 191, 192, 117, 193, 194, 182, 183, 184, 185, 186, 187, 188, 189, 334, 335, 336, 337, 338, 339, 340, 341, 342, 343, 344, 345, 346, 347, 348, 349, 136, 367, 368, 369, 197, 370, 206, 1182, 1183, 1231, 1232, 1233, 1234, 1235, 1236, 1237, 1238, 1239, 1240, 1241, 1242, 1243, 1244, 1245, 1246, 1247, 1248] (by decide +kernel) (by decide +kernel)
set_option maxRecDepth 20000 in
theorem gL_law_X15_carbon : GoodIn wsL_law (wsV RL 163 RX15 yX15_carbon wsX15_carbon) := goodIn_app (goodIn_of _ (by decide +kernel)) ggL_law_X15_carbon
set_option maxRecDepth 20000 in
theorem ggL_law_X8_water : GoodIn wsL_law wsX8_water := goodIn_r _ [933, 17, 934, 1180, 1181, 1184, 1185, 1186, 1187, 1188, 1189, 1190, 1191, 1192, 1193, 1194, 1195, 1196, 1197] (by decide +kernel) (by decide +kernel)
set_option maxRecDepth 20000 in
theorem gL_law_X8_water : GoodIn wsL_law (wsV RL 164 RX8 yX8_water wsX8_water) := goodIn_app (goodIn_of _ (by decide +kernel)) ggL_law_X8_water
set_option maxRecDepth 20000 in
theorem ggL_law_X15_water : GoodIn wsL_law wsX15_water := goodIn_r _ [938, 111, 939, 1182, 1183, 1231, 1232, 1233, 1234, 1235, 1236, 1237, 1238, 1239, 1240, 1241, 1242, 1243, 1244] (by decide +kernel) (by decide +kernel)
set_option maxRecDepth 20000 in
theorem gL_law_X15_water : GoodIn wsL_law (wsV RL 167 RX15 yX15_water wsX15_water) := goodIn_app (goodIn_of _ (by decide +kernel)) ggL_law_X15_water
set_option maxRecDepth 20000 in
theorem ggL_law_X8_battery : GoodIn wsL_law wsX8_battery := goodIn_r _ [943, 17, 944, 1180, 1181, 1184, 1185, 1186, 1187, 1188, 1189, 1190, 1191, 1192, 1193, 1194, 1195, 1196, 1197] (by decide +kernel) (by decide +kernel)
set_option maxRecDepth 20000 in
theorem gL_law_X8_battery : GoodIn wsL_law (wsV RL 168 RX8 yX8_battery wsX8_battery) := goodIn_app (goodIn_of _ (by decide +kernel)) ggL_law_X8_battery
set_option maxRecDepth 20000 in
theorem ggL_law_X15_battery : GoodIn wsL_law wsX15_battery := goodIn_r _ [948, 111, 949, 1182, 1183, 1231, 1232, 1233, 1234, 1235, 1236, 1237, 1238, 1239, 1240, 1241, 1242, 1243, 1244] (by decide +kernel) (by decide +kernel)
set_option maxRecDepth 20000 in
theorem gL_law_X15_battery : GoodIn wsL_law (wsV RL 171 RX15 yX15_battery wsX15_battery) := goodIn_app (goodIn_of _ (by decide +kernel)) ggL_law_X15_battery
set_option maxRecDepth 20000 in
theorem ggL_law_L_whereIs : GoodIn wsL_law wsL_whereIs := goodIn_ca (goodIn_ca (goodIn_r _ [952, 271, 953, 954, 955, 2, 956, 17, 450, 482, 488, 483, 282, 283, 284, 285, 286, 1180, 1181, 1184, 1185, 1186, 1187, 1188, 1189, 1190, 1191, 1192, 1193, 1194, 1195, 1196, 1197, 1212, 1213, 1214, 1215, 1216, 1217] (by decide +kernel) (by decide +kernel)) (goodIn_sub (fun _ h => List.mem_append_left _ (List.mem_append_left _ (List.mem_append_left _ (List.mem_append_left _ (List.mem_append_left _ (List.mem_append_right _ h)))))) (by decide +kernel))) (goodIn_sub (fun _ h => List.mem_append_left _ (List.mem_append_left _ (List.mem_append_right _ h))) (by decide +kernel))
set_option maxRecDepth 20000 in
theorem gL_law_L_whereIs : GoodIn wsL_law (va_wsS RL 172 yL_whereIs wsL_whereIs) := goodIn_app (goodIn_of _ (by decide +kernel)) ggL_law_L_whereIs
set_option maxRecDepth 20000 in
theorem ggL_law_X15_whereIs : GoodIn wsL_law wsX15_whereIs := goodIn_r _ [960, 111, 464, 497, 498, 543, 544, 545, 5, 546, 190, 191, 192, 117, 193, 194, 182, 183, 184, 185, 186, 187, 188, 189, 334, 335, 336, 337, 338, 339, 340, 341, 342, 343, 344, 345, 346, 347, 348, 349, 136, 1182, 1183, 1231, 1232, 1233, 1234, 1235, 1236, 1237, 1238, 1239, 1240, 1241, 1242, 1243, 1244, 1256, 1257, 1258, 1245, 1246, 1247] (by decide +kernel) (by decide +kernel)
set_option maxRecDepth 20000 in
theorem gL_law_X15_whereIs : GoodIn wsL_law (wsV RL 174 RX15 yX15_whereIs wsX15_whereIs) := goodIn_app (goodIn_of _ (by decide +kernel)) ggL_law_X15_whereIs
set_option maxRecDepth 20000 in
theorem ggL_law_L_distance : GoodIn wsL_law wsL_distance := goodIn_ca (goodIn_ca (goodIn_r _ [963, 271, 964, 965, 966, 2, 967, 17, 589, 622, 623, 968, 282, 283, 284, 285, 286, 1180, 1181, 1184, 1185, 1186, 1187, 1188, 1189, 1190, 1191, 1192, 1193, 1194, 1195, 1196, 1197, 1223, 1224, 1225, 1226, 1227, 1228] (by decide +kernel) (by decide +kernel)) (goodIn_sub (fun _ h => List.mem_append_left _ (List.mem_append_left _ (List.mem_append_left _ (List.mem_append_left _ (List.mem_append_left _ (List.mem_append_right _ h)))))) (by decide +kernel))) (goodIn_sub (fun _ h => List.mem_append_left _ (List.mem_append_left _ (List.mem_append_right _ h))) (by decide +kernel))
set_option maxRecDepth 20000 in
theorem gL_law_L_distance : GoodIn wsL_law (va_wsS RL 175 yL_distance wsL_distance) := goodIn_app (goodIn_of _ (by decide +kernel)) ggL_law_L_distance
set_option maxRecDepth 20000 in
theorem ggL_law_X15_distance : GoodIn wsL_law wsX15_distance := goodIn_r _ [972, 111, 603, 633, 634, 638, 639, 640, 5, 641, 190, 191, 192, 117, 193, 194, 182, 183, 184, 185, 186, 187, 188, 189, 334, 335, 336, 337, 338, 339, 340, 341, 342, 343, 344, 345, 346, 347, 348, 349, 136, 1182, 1183, 1231, 1232, 1233, 1234, 1235, 1236, 1237, 1238, 1239, 1240, 1241, 1242, 1243, 1244, 1267, 1268, 1269, 1270, 1245, 1246, 1247] (by decide +kernel) (by decide +kernel)
set_option maxRecDepth 20000 in
theorem gL_law_X15_distance : GoodIn wsL_law (wsV RL 177 RX15 yX15_distance wsX15_distance) := goodIn_app (goodIn_of _ (by decide +kernel)) ggL_law_X15_distance
set_option maxRecDepth 20000 in
theorem ggL_law_L_isOn : GoodIn wsL_law wsL_isOn := goodIn_ca (goodIn_ca (goodIn_r _ [975, 271, 976, 977, 978, 2, 979, 17, 378, 414, 417, 282, 283, 284, 285, 286, 1180, 1181, 1184, 1185, 1186, 1187, 1188, 1189, 1190, 1191, 1192, 1193, 1194, 1195, 1196, 1197, 1207, 1208, 1209, 1210, 1211] (by decide +kernel) (by decide +kernel)) (goodIn_sub (fun _ h => List.mem_append_left _ (List.mem_append_left _ (List.mem_append_left _ (List.mem_append_left _ (List.mem_append_left _ (List.mem_append_right _ h)))))) (by decide +kernel))) (goodIn_sub (fun _ h => List.mem_append_left _ (List.mem_append_left _ (List.mem_append_right _ h))) (by decide +kernel))
set_option maxRecDepth 20000 in
theorem gL_law_L_isOn : GoodIn wsL_law (va_wsS RL 178 yL_isOn wsL_isOn) := goodIn_app (goodIn_of _ (by decide +kernel)) ggL_law_L_isOn
set_option maxRecDepth 20000 in
theorem ggL_law_X15_isOn : GoodIn wsL_law wsX15_isOn := goodIn_r _ [983, 111, 392, 422, 425, 426, 427, 428, 5, 429, 190, 191, 192, 117, 193, 194, 182, 183, 184, 185, 186, 187, 188, 189, 334, 335, 336, 337, 338, 339, 340, 341, 342, 343, 344, 345, 346, 347, 348, 349, 136, 1182, 1183, 1231, 1232, 1233, 1234, 1235, 1236, 1237, 1238, 1239, 1240, 1241, 1242, 1243, 1244, 1252, 1253, 1254, 1255, 1245, 1246, 1247] (by decide +kernel) (by decide +kernel)
set_option maxRecDepth 20000 in
theorem gL_law_X15_isOn : GoodIn wsL_law (wsV RL 180 RX15 yX15_isOn wsX15_isOn) := goodIn_app (goodIn_of _ (by decide +kernel)) ggL_law_X15_isOn
set_option maxRecDepth 20000 in
theorem ggL_law_X8_isSafe : GoodIn wsL_law wsX8_isSafe := goodIn_r _ [987, 17, 415, 1180, 1181, 1184, 1185, 1186, 1187, 1188, 1189, 1190, 1191, 1192, 1193, 1194, 1195, 1196, 1197] (by decide +kernel) (by decide +kernel)
set_option maxRecDepth 20000 in
theorem gL_law_X8_isSafe : GoodIn wsL_law (wsV RL 181 RX8 yX8_isSafe wsX8_isSafe) := goodIn_app (goodIn_of _ (by decide +kernel)) ggL_law_X8_isSafe
set_option maxRecDepth 20000 in
theorem ggL_law_X15_isSafe : GoodIn wsL_law wsX15_isSafe := goodIn_r _ [991, 111, 423, 1182, 1183, 1231, 1232, 1233, 1234, 1235, 1236, 1237, 1238, 1239, 1240, 1241, 1242, 1243, 1244] (by decide +kernel) (by decide +kernel)
set_option maxRecDepth 20000 in
theorem gL_law_X15_isSafe : GoodIn wsL_law (wsV RL 184 RX15 yX15_isSafe wsX15_isSafe) := goodIn_app (goodIn_of _ (by decide +kernel)) ggL_law_X15_isSafe
set_option maxRecDepth 20000 in
theorem ggL_law_X8_events : GoodIn wsL_law wsX8_events := goodIn_r _ [995, 17, 996, 997, 1180, 1181, 1184, 1185, 1186, 1187, 1188, 1189, 1190, 1191, 1192, 1193, 1194, 1195, 1196, 1197, 1229, 1230] (by decide +kernel) (by decide +kernel)
set_option maxRecDepth 20000 in
theorem gL_law_X8_events : GoodIn wsL_law (wsV RL 185 RX8 yX8_events wsX8_events) := goodIn_app (goodIn_of _ (by decide +kernel)) ggL_law_X8_events
set_option maxRecDepth 20000 in
theorem ggL_law_X15_events : GoodIn wsL_law wsX15_events := goodIn_r _ [1001, 111, 1002, 190, 191, 192, 117, 193, 194, 1182, 1183, 1231, 1232, 1233, 1234, 1235, 1236, 1237, 1238, 1239, 1240, 1241, 1242, 1243, 1244, 1245, 1246, 1247] (by decide +kernel) (by decide +kernel)
set_option maxRecDepth 20000 in
theorem gL_law_X15_events : GoodIn wsL_law (wsV RL 188 RX15 yX15_events wsX15_events) := goodIn_app (goodIn_of _ (by decide +kernel)) ggL_law_X15_events
set_option maxRecDepth 20000 in
theorem ggL_law_L_eventAt : GoodIn wsL_law wsL_eventAt := goodIn_ca (goodIn_ca (goodIn_r _ [1005, 271, 1006, 1007, 1008, 2, 1009, 17, 996, 997, 1010, 282, 283, 284, 285, 286, 1180, 1181, 1184, 1185, 1186, 1187, 1188, 1189, 1190, 1191, 1192, 1193, 1194, 1195, 1196, 1197, 1229, 1230] (by decide +kernel) (by decide +kernel)) (goodIn_sub (fun _ h => List.mem_append_left _ (List.mem_append_left _ (List.mem_append_left _ (List.mem_append_left _ (List.mem_append_left _ (List.mem_append_right _ h)))))) (by decide +kernel))) (goodIn_sub (fun _ h => List.mem_append_left _ (List.mem_append_left _ (List.mem_append_right _ h))) (by decide +kernel))
set_option maxRecDepth 20000 in
theorem gL_law_L_eventAt : GoodIn wsL_law (va_wsS RL 189 yL_eventAt wsL_eventAt) := goodIn_app (goodIn_of _ (by decide +kernel)) ggL_law_L_eventAt
set_option maxRecDepth 20000 in
theorem ggL_law_X15_eventAt : GoodIn wsL_law wsX15_eventAt := goodIn_r _ [1014, 111, 1002, 189, 1015, 190, 191, 192, 117, 193, 194, 182, 183, 5, 184, 334, 335, 336, 337, 338, 339, 340, 341, 342, 343, 344, 345, 346, 347, 348, 349, 136, 1016, 1017, 1018, 826, 1019, 835, 1020, 1021, 1022, 1023, 1182, 1183, 1231, 1232, 1233, 1234, 1235, 1236, 1237, 1238, 1239, 1240, 1241, 1242, 1243, 1244, 1245, 1246, 1247, 1271] (by decide +kernel) (by decide +kernel)
set_option maxRecDepth 20000 in
theorem gL_law_X15_eventAt : GoodIn wsL_law (wsV RL 191 RX15 yX15_eventAt wsX15_eventAt) := goodIn_app (goodIn_of _ (by decide +kernel)) ggL_law_X15_eventAt
set_option maxRecDepth 20000 in
theorem ggL_law_X8_timeLeft : GoodIn wsL_law wsX8_timeLeft := goodIn_ca (goodIn_r _ [1027, 1028, 1029, 1030, 2, 1031, 17, 450, 18, 378, 1032, 1033, 1034, 1035, 1036, 37, 1037, 455, 763, 1038, 1039, 1040, 16, 1041, 26, 30, 34, 38, 42, 46, 656, 657, 47, 48, 49, 719, 50, 1042, 1043, 1044, 25, 1045, 170, 59, 60, 61, 746, 1046, 1047, 1048, 29, 1049, 291, 65, 66, 68, 1050, 1051, 1052, 33, 1053, 383, 73, 74, 75, 76, 1054, 1055, 1056, 1057, 80, 81, 82, 83, 1058, 1059, 1060, 41, 1061, 560, 87, 88, 89, 90, 1062, 1063, 1064, 45, 1065, 594, 94, 95, 96, 97, 98, 652, 653, 654, 655, 54, 658, 659, 660, 661, 662, 663, 664, 665, 666, 667, 668, 669, 670, 671, 53, 672, 673, 103, 674, 675, 676, 677, 678, 679, 680, 681, 682, 683, 684, 685, 686, 687, 688, 689, 690, 691, 692, 693, 694, 695, 696, 697, 698, 699, 700, 701, 702, 703, 704, 705, 706, 707, 708, 709, 710, 711, 712, 713, 714, 715, 716, 717, 718, 720, 721, 258, 232, 259, 722, 723, 724, 725, 726, 727, 728, 729, 730, 731, 732, 733, 734, 735, 736, 737, 738, 739, 740, 741, 742, 743, 744, 745, 747, 748, 749, 750, 751, 752, 753, 754, 755, 756, 757, 758, 759, 760, 761, 762, 764, 765, 766, 767, 768, 769, 770, 771, 772, 773, 774, 775, 776, 777, 778, 779, 780, 781, 782, 783, 784, 785, 786, 787, 788, 789, 790, 791, 1180, 1181, 1184, 1185, 1186, 1187, 1188, 1189, 1190, 1191, 1192, 1193, 1194, 1195, 1196, 1197, 1207, 1208, 1209, 1210, 1211, 1212, 1213, 1214, 1215, 1216, 1217, 1198, 1199, 1200, 1201, 1202, 1203, 1204, 1205, 1206, 1218, 1219, 1220, 1221, 1222, 1223, 1224, 1225, 1226, 1227, 1228, 1229, 1230] (by decide +kernel) (by decide +kernel)) (goodIn_sub (fun _ h => List.mem_append_left _ (List.mem_append_left _ (List.mem_append_left _ (List.mem_append_left _ (List.mem_append_left _ (List.mem_append_right _ h)))))) (by decide +kernel))
set_option maxRecDepth 20000 in
theorem gL_law_X8_timeLeft : GoodIn wsL_law (wsV RL 192 RX8 yX8_timeLeft wsX8_timeLeft) := goodIn_app (goodIn_of _ (by decide +kernel)) ggL_law_X8_timeLeft
set_option maxRecDepth 20000 in
theorem ggL_law_X15_timeLeft : GoodIn wsL_law wsX15_timeLeft := goodIn_r _ [1069, 111, 1070, 1071, 1072, 110, 1073, 1074, 109, 118, 119, 120, 125, 121, 802, 1075, 302, 303, 878, 879, 803, 122, 843, 1076, 394, 395, 861, 862, 844, 123, 804, 1077, 466, 467, 805, 884, 885, 124, 849, 1078, 605, 606, 850, 852, 851, 1079, 127, 128, 129, 130, 131, 1080, 112, 113, 114, 12, 13, 115, 116, 117, 126, 132, 133, 134, 135, 136, 137, 138, 139, 140, 141, 142, 143, 144, 145, 146, 1081, 1082, 1083, 1084, 216, 217, 194, 823, 261, 262, 263, 1085, 1086, 1087, 1088, 244, 245, 246, 247, 248, 249, 250, 251, 252, 253, 254, 255, 256, 257, 258, 232, 259, 260, 226, 227, 228, 229, 230, 231, 233, 234, 235, 236, 237, 238, 239, 240, 241, 242, 243, 853, 502, 503, 504, 505, 506, 507, 508, 509, 510, 511, 512, 513, 514, 515, 854, 517, 518, 519, 520, 855, 522, 523, 524, 525, 526, 527, 528, 529, 1089, 309, 310, 311, 312, 313, 314, 836, 213, 214, 215, 218, 219, 220, 221, 222, 223, 224, 225, 1090, 397, 398, 399, 400, 401, 402, 403, 1091, 469, 470, 471, 472, 473, 474, 1092, 608, 609, 610, 611, 612, 613, 614, 1093, 1094, 1095, 1096, 1097, 1098, 1099, 1100, 1101, 797, 798, 799, 800, 801, 806, 807, 808, 809, 810, 811, 812, 813, 191, 192, 193, 814, 335, 336, 337, 338, 339, 340, 341, 342, 343, 344, 345, 346, 347, 348, 349, 815, 816, 817, 818, 819, 820, 821, 822, 824, 825, 826, 827, 828, 829, 830, 831, 832, 833, 834, 835, 837, 838, 839, 840, 841, 842, 845, 846, 847, 848, 856, 857, 858, 859, 860, 863, 864, 865, 866, 867, 368, 369, 197, 370, 206, 868, 869, 870, 871, 872, 196, 198, 199, 200, 201, 202, 203, 204, 205, 207, 208, 209, 210, 211, 873, 364, 365, 366, 874, 875, 876, 877, 880, 881, 882, 883, 886, 887, 888, 889, 890, 891, 892, 893, 894, 895, 896, 897, 1182, 1183, 1231, 1232, 1233, 1234, 1235, 1236, 1237, 1238, 1239, 1240, 1241, 1242, 1243, 1244, 1249, 1250, 1251, 1252, 1253, 1254, 1255, 1256, 1257, 1258, 1267, 1268, 1269, 1270, 1245, 1246, 1247, 1259, 1260, 1261, 1262, 1263, 1264, 1265, 1266, 1271, 1248] (by decide +kernel) (by decide +kernel)
set_option maxRecDepth 20000 in
theorem gL_law_X15_timeLeft : GoodIn wsL_law (wsV RL 195 RX15 yX15_timeLeft wsX15_timeLeft) := goodIn_app (goodIn_of _ (by decide +kernel)) ggL_law_X15_timeLeft
set_option maxRecDepth 20000 in
theorem ggL_law_X8_worst : GoodIn wsL_law wsX8_worst := goodIn_ca (goodIn_r _ [1105, 17, 378, 414, 1028, 1029, 1030, 2, 1031, 450, 18, 1032, 1033, 1034, 1035, 1036, 37, 1037, 455, 763, 1038, 1039, 1040, 16, 1041, 26, 30, 34, 38, 42, 46, 656, 657, 47, 48, 49, 719, 50, 1042, 1043, 1044, 25, 1045, 170, 59, 60, 61, 746, 1046, 1047, 1048, 29, 1049, 291, 65, 66, 68, 1050, 1051, 1052, 33, 1053, 383, 73, 74, 75, 76, 1054, 1055, 1056, 1057, 80, 81, 82, 83, 1058, 1059, 1060, 41, 1061, 560, 87, 88, 89, 90, 1062, 1063, 1064, 45, 1065, 594, 94, 95, 96, 97, 98, 652, 653, 654, 655, 54, 658, 659, 660, 661, 662, 663, 664, 665, 666, 667, 668, 669, 670, 671, 53, 672, 673, 103, 674, 675, 676, 677, 678, 679, 680, 681, 682, 683, 684, 685, 686, 687, 688, 689, 690, 691, 692, 693, 694, 695, 696, 697, 698, 699, 700, 701, 702, 703, 704, 705, 706, 707, 708, 709, 710, 711, 712, 713, 714, 715, 716, 717, 718, 720, 721, 258, 232, 259, 722, 723, 724, 725, 726, 727, 728, 729, 730, 731, 732, 733, 734, 735, 736, 737, 738, 739, 740, 741, 742, 743, 744, 745, 747, 748, 749, 750, 751, 752, 753, 754, 755, 756, 757, 758, 759, 760, 761, 762, 764, 765, 766, 767, 768, 769, 770, 771, 772, 773, 774, 775, 776, 777, 778, 779, 780, 781, 782, 783, 784, 785, 786, 787, 788, 789, 790, 791, 1180, 1181, 1184, 1185, 1186, 1187, 1188, 1189, 1190, 1191, 1192, 1193, 1194, 1195, 1196, 1197, 1207, 1208, 1209, 1210, 1211, 1212, 1213, 1214, 1215, 1216, 1217, 1198, 1199, 1200, 1201, 1202, 1203, 1204, 1205, 1206, 1218, 1219, 1220, 1221, 1222, 1223, 1224, 1225, 1226, 1227, 1228, 1229, 1230] (by decide +kernel) (by decide +kernel)) (goodIn_sub (fun _ h => List.mem_append_left _ (List.mem_append_left _ (List.mem_append_left _ (List.mem_append_left _ (List.mem_append_left _ (List.mem_append_right _ h)))))) (by decide +kernel))
set_option maxRecDepth 20000 in
theorem gL_law_X8_worst : GoodIn wsL_law (wsV RL 196 RX8 yX8_worst wsX8_worst) := goodIn_app (goodIn_of _ (by decide +kernel)) ggL_law_X8_worst
set_option maxRecDepth 20000 in
theorem ggL_law_X15_worst : GoodIn wsL_law wsX15_worst := goodIn_r _ [1109, 111, 392, 422, 1110, 1111, 258, 232, 259, 1112, 1067, 1068, 5, 1069, 1070, 1071, 1072, 110, 1073, 1074, 109, 118, 119, 120, 125, 121, 802, 1075, 302, 303, 878, 879, 803, 122, 843, 1076, 394, 395, 861, 862, 844, 123, 804, 1077, 466, 467, 805, 884, 885, 124, 849, 1078, 605, 606, 850, 852, 851, 1079, 127, 128, 129, 130, 131, 1080, 112, 113, 114, 12, 13, 115, 116, 117, 126, 132, 133, 134, 135, 136, 137, 138, 139, 140, 141, 142, 143, 144, 145, 146, 1081, 1082, 1083, 1084, 216, 217, 194, 823, 261, 262, 263, 1085, 1086, 1087, 1088, 244, 245, 246, 247, 248, 249, 250, 251, 252, 253, 254, 255, 256, 257, 260, 226, 227, 228, 229, 230, 231, 233, 234, 235, 236, 237, 238, 239, 240, 241, 242, 243, 853, 502, 503, 504, 505, 506, 507, 508, 509, 510, 511, 512, 513, 514, 515, 854, 517, 518, 519, 520, 855, 522, 523, 524, 525, 526, 527, 528, 529, 1089, 309, 310, 311, 312, 313, 314, 836, 213, 214, 215, 218, 219, 220, 221, 222, 223, 224, 225, 1090, 397, 398, 399, 400, 401, 402, 403, 1091, 469, 470, 471, 472, 473, 474, 1092, 608, 609, 610, 611, 612, 613, 614, 1093, 1094, 1095, 1096, 1097, 1098, 1099, 1100, 1101, 797, 798, 799, 800, 801, 806, 807, 808, 809, 810, 811, 812, 813, 191, 192, 193, 814, 335, 336, 337, 338, 339, 340, 341, 342, 343, 344, 345, 346, 347, 348, 349, 815, 816, 817, 818, 819, 820, 821, 822, 824, 825, 826, 827, 828, 829, 830, 831, 832, 833, 834, 835, 837, 838, 839, 840, 841, 842, 845, 846, 847, 848, 856, 857, 858, 859, 860, 863, 864, 865, 866, 867, 368, 369, 197, 370, 206, 868, 869, 870, 871, 872, 196, 198, 199, 200, 201, 202, 203, 204, 205, 207, 208, 209, 210, 211, 873, 364, 365, 366, 874, 875, 876, 877, 880, 881, 882, 883, 886, 887, 888, 889, 890, 891, 892, 893, 894, 895, 896, 897, 190, 334, 1182, 1183, 1231, 1232, 1233, 1234, 1235, 1236, 1237, 1238, 1239, 1240, 1241, 1242, 1243, 1244, 1252, 1253, 1254, 1255, 1249, 1250, 1251, 1256, 1257, 1258, 1267, 1268, 1269, 1270, 1245, 1246, 1247, 1259, 1260, 1261, 1262, 1263, 1264, 1265, 1266, 1271, 1248] (by decide +kernel) (by decide +kernel)
set_option maxRecDepth 20000 in
theorem gL_law_X15_worst : GoodIn wsL_law (wsV RL 199 RX15 yX15_worst wsX15_worst) := goodIn_app (goodIn_of _ (by decide +kernel)) ggL_law_X15_worst
set_option maxRecDepth 20000 in
theorem ggL_law_X8_checksum : GoodIn wsL_law wsX8_checksum := goodIn_ca (goodIn_r _ [1116, 17, 159, 281, 1117, 913, 1118, 925, 1180, 1181, 1184, 1185, 1186, 1187, 1188, 1189, 1190, 1191, 1192, 1193, 1194, 1195, 1196, 1197, 1198, 1199, 1200, 1201, 1202] (by decide +kernel) (by decide +kernel)) (goodIn_sub (fun _ h => List.mem_append_left _ (List.mem_append_left _ (List.mem_append_left _ (List.mem_append_left _ (List.mem_append_left _ (List.mem_append_right _ h)))))) (by decide +kernel))
set_option maxRecDepth 20000 in
theorem gL_law_X8_checksum : GoodIn wsL_law (wsV RL 200 RX8 yX8_checksum wsX8_checksum) := goodIn_app (goodIn_of _ (by decide +kernel)) ggL_law_X8_checksum
set_option maxRecDepth 20000 in
theorem ggL_law_X15_checksum : GoodIn wsL_law wsX15_checksum := goodIn_r _ [1122, 111, 179, 1123, 362, 1124, 180, 190, 191, 192, 117, 193, 194, 334, 335, 336, 337, 338, 339, 340, 341, 342, 343, 344, 345, 346, 347, 348, 349, 136, 367, 368, 369, 197, 370, 206, 1182, 1183, 1231, 1232, 1233, 1234, 1235, 1236, 1237, 1238, 1239, 1240, 1241, 1242, 1243, 1244, 1245, 1246, 1247, 1248] (by decide +kernel) (by decide +kernel)
set_option maxRecDepth 20000 in
theorem gL_law_X15_checksum : GoodIn wsL_law (wsV RL 204 RX15 yX15_checksum wsX15_checksum) := goodIn_app (goodIn_of _ (by decide +kernel)) ggL_law_X15_checksum
set_option maxRecDepth 20000 in
theorem ggL_law_L_aliveShare : GoodIn wsL_law wsL_aliveShare := goodIn_ca (goodIn_ca (goodIn_r _ [1127, 645, 1128, 1129, 1130, 2, 1131, 650, 651, 17, 450, 482, 1034, 1035, 1036, 37, 1037, 455, 763, 1180, 1181, 1184, 1185, 1186, 1187, 1188, 1189, 1190, 1191, 1192, 1193, 1194, 1195, 1196, 1197, 1212, 1213, 1214, 1215, 1216, 1217] (by decide +kernel) (by decide +kernel)) (goodIn_sub (fun _ h => List.mem_append_left _ (List.mem_append_left _ (List.mem_append_left _ (List.mem_append_left _ (List.mem_append_left _ (List.mem_append_right _ h)))))) (by decide +kernel))) (goodIn_sub (fun _ h => List.mem_append_right _ h) (by decide +kernel))
set_option maxRecDepth 20000 in
theorem gL_law_L_aliveShare : GoodIn wsL_law (va_wsS RL 205 yL_aliveShare wsL_aliveShare) := goodIn_app (goodIn_of _ (by decide +kernel)) ggL_law_L_aliveShare
set_option maxRecDepth 20000 in
theorem ggL_law_X15_aliveShare : GoodIn wsL_law wsX15_aliveShare := goodIn_r _ [1135, 111, 464, 190, 191, 192, 117, 193, 194, 185, 186, 187, 5, 188, 189, 1136, 1098, 1099, 110, 1100, 123, 804, 805, 853, 502, 503, 504, 505, 506, 507, 508, 509, 510, 511, 512, 12, 13, 513, 514, 217, 515, 854, 517, 518, 519, 520, 855, 522, 523, 524, 525, 526, 527, 528, 529, 1182, 1183, 1231, 1232, 1233, 1234, 1235, 1236, 1237, 1238, 1239, 1240, 1241, 1242, 1243, 1244, 1245, 1246, 1247, 1256, 1257, 1258, 1259, 1260, 1261, 1262] (by decide +kernel) (by decide +kernel)
set_option maxRecDepth 20000 in
theorem gL_law_X15_aliveShare : GoodIn wsL_law (wsV RL 208 RX15 yX15_aliveShare wsX15_aliveShare) := goodIn_app (goodIn_of _ (by decide +kernel)) ggL_law_X15_aliveShare
set_option maxRecDepth 20000 in
theorem ggL_law_L_meanOxygen : GoodIn wsL_law wsL_meanOxygen := goodIn_ca (goodIn_ca (goodIn_r _ [1139, 645, 1140, 1141, 1142, 2, 1143, 650, 651, 17, 159, 281, 1144, 1145, 1146, 25, 1147, 170, 59, 1180, 1181, 1184, 1185, 1186, 1187, 1188, 1189, 1190, 1191, 1192, 1193, 1194, 1195, 1196, 1197, 1198, 1199, 1200, 1201, 1202] (by decide +kernel) (by decide +kernel)) (goodIn_sub (fun _ h => List.mem_append_left _ (List.mem_append_left _ (List.mem_append_left _ (List.mem_append_left _ (List.mem_append_left _ (List.mem_append_right _ h)))))) (by decide +kernel))) (goodIn_sub (fun _ h => List.mem_append_right _ h) (by decide +kernel))
set_option maxRecDepth 20000 in
theorem gL_law_L_meanOxygen : GoodIn wsL_law (va_wsS RL 209 yL_meanOxygen wsL_meanOxygen) := goodIn_app (goodIn_of _ (by decide +kernel)) ggL_law_L_meanOxygen
set_option maxRecDepth 20000 in
theorem ggL_law_X15_meanOxygen : GoodIn wsL_law wsX15_meanOxygen := goodIn_r _ [1151, 111, 179, 362, 1152, 1153, 1154, 117, 1155, 194, 185, 186, 187, 5, 188, 189, 501, 502, 503, 504, 505, 506, 507, 508, 509, 510, 511, 512, 12, 13, 513, 514, 217, 515, 516, 517, 518, 519, 520, 521, 522, 523, 524, 525, 526, 527, 528, 529, 367, 368, 369, 197, 370, 206, 190, 191, 192, 193, 1182, 1183, 1231, 1232, 1233, 1234, 1235, 1236, 1237, 1238, 1239, 1240, 1241, 1242, 1243, 1244, 1245, 1246, 1247, 1259, 1260, 1261, 1262, 1248] (by decide +kernel) (by decide +kernel)
set_option maxRecDepth 20000 in
theorem gL_law_X15_meanOxygen : GoodIn wsL_law (wsV RL 211 RX15 yX15_meanOxygen wsX15_meanOxygen) := goodIn_app (goodIn_of _ (by decide +kernel)) ggL_law_X15_meanOxygen
set_option maxRecDepth 20000 in
theorem ggL_law_X8_isSound : GoodIn wsL_law wsX8_isSound := goodIn_ca (goodIn_r _ [1159, 17, 944, 554, 555, 1160, 1161, 1162, 16, 1163, 50, 26, 1164, 49, 719, 1165, 1145, 1146, 25, 1147, 170, 59, 1166, 1167, 1168, 1169, 60, 1170, 1171, 1172, 41, 1173, 560, 89, 90, 1174, 1103, 1104, 2, 1105, 378, 414, 1028, 1029, 1030, 1031, 450, 18, 1032, 1033, 1034, 1035, 1036, 37, 1037, 455, 763, 1038, 1039, 1040, 1041, 30, 34, 38, 42, 46, 656, 657, 47, 48, 1042, 1043, 1044, 1045, 61, 746, 1046, 1047, 1048, 29, 1049, 291, 65, 66, 68, 1050, 1051, 1052, 33, 1053, 383, 73, 74, 75, 76, 1054, 1055, 1056, 1057, 80, 81, 82, 83, 1058, 1059, 1060, 1061, 87, 88, 1062, 1063, 1064, 45, 1065, 594, 94, 95, 96, 97, 98, 652, 653, 654, 655, 54, 658, 659, 660, 661, 662, 663, 664, 665, 666, 667, 668, 669, 670, 671, 53, 672, 673, 103, 674, 675, 676, 677, 678, 679, 680, 681, 682, 683, 684, 685, 686, 687, 688, 689, 690, 691, 692, 693, 694, 695, 696, 697, 698, 699, 700, 701, 702, 703, 704, 705, 706, 707, 708, 709, 710, 711, 712, 713, 714, 715, 716, 717, 718, 720, 721, 258, 232, 259, 722, 723, 724, 725, 726, 727, 728, 729, 730, 731, 732, 733, 734, 735, 736, 737, 738, 739, 740, 741, 742, 743, 744, 745, 747, 748, 749, 750, 751, 752, 753, 754, 755, 756, 757, 758, 759, 760, 761, 762, 764, 765, 766, 767, 768, 769, 770, 771, 772, 773, 774, 775, 776, 777, 778, 779, 780, 781, 782, 783, 784, 785, 786, 787, 788, 789, 790, 791, 1175, 1025, 1026, 1027, 1180, 1181, 1184, 1185, 1186, 1187, 1188, 1189, 1190, 1191, 1192, 1193, 1194, 1195, 1196, 1197, 1198, 1199, 1200, 1201, 1202, 1218, 1219, 1220, 1221, 1222, 1207, 1208, 1209, 1210, 1211, 1212, 1213, 1214, 1215, 1216, 1217, 1203, 1204, 1205, 1206, 1223, 1224, 1225, 1226, 1227, 1228, 1229, 1230] (by decide +kernel) (by decide +kernel)) (goodIn_sub (fun _ h => List.mem_append_left _ (List.mem_append_left _ (List.mem_append_left _ (List.mem_append_left _ (List.mem_append_left _ (List.mem_append_right _ h)))))) (by decide +kernel))
set_option maxRecDepth 20000 in
theorem gL_law_X8_isSound : GoodIn wsL_law (wsV RL 212 RX8 yX8_isSound wsX8_isSound) := goodIn_app (goodIn_of _ (by decide +kernel)) ggL_law_X8_isSound
set_option maxRecDepth 20000 in
theorem ggL_law_X15_isSound : GoodIn wsL_law wsX15_isSound := goodIn_r _ [1179] (by decide +kernel) (by decide +kernel)
set_option maxRecDepth 20000 in
theorem gL_law_X15_isSound : GoodIn wsL_law (wsV RL 215 RX15 yX15_isSound wsX15_isSound) := goodIn_app (goodIn_of _ (by decide +kernel)) ggL_law_X15_isSound
