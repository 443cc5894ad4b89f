set_option maxRecDepth 20000 in
theorem ggX14_isDanger_Jx4a65c_iterator_32c93 : GoodIn wsX14_isDanger wsJx4a65c_iterator_32c93 := goodIn_r _ [11, 12, 13, 14, 15, 16, 17, 18, 19, 20, 21, 22, 23, 24, 25, 81, 82, 83, 84, 85, 86, 87] (by decide +kernel) (by decide +kernel)
set_option maxRecDepth 20000 in
theorem gX14_isDanger_Jx4a65c_iterator_32c93_f66Jx4a65c : GoodIn wsX14_isDanger (va_wsF RX14 66 RJx4a65c ⟨"java/util/List", "iterator", "()Ljava/util/Iterator;"⟩ yJx4a65c_iterator_32c93 wsJx4a65c_iterator_32c93) := goodIn_app (goodIn_of _ (by decide +kernel)) ggX14_isDanger_Jx4a65c_iterator_32c93
set_option maxRecDepth 20000 in
theorem ggX14_isDanger_Jx35411_hasNext_aae02 : GoodIn wsX14_isDanger wsJx35411_hasNext_aae02 := goodIn_r _ [29, 30, 18, 81, 82, 83, 84, 85, 86, 87] (by decide +kernel) (by decide +kernel)
set_option maxRecDepth 20000 in
theorem gX14_isDanger_Jx35411_hasNext_aae02_f70Jx35411 : GoodIn wsX14_isDanger (va_wsF RX14 70 RJx35411 ⟨"java/util/Iterator", "hasNext", "()Z"⟩ yJx35411_hasNext_aae02 wsJx35411_hasNext_aae02) := goodIn_app (goodIn_of _ (by decide +kernel)) ggX14_isDanger_Jx35411_hasNext_aae02
theorem dX14_isDanger_0 : decode cX14_isDanger 0 = .ok (.iconst 0, 1) := by decide +kernel
theorem dX14_isDanger_1 : decode cX14_isDanger 1 = .ok (.istore_n 1, 1) := by decide +kernel
theorem dX14_isDanger_2 : decode cX14_isDanger 2 = .ok (.aload_n 0, 1) := by decide +kernel
theorem dX14_isDanger_3 : decode cX14_isDanger 3 = .ok (.getfield 30, 3) := by decide +kernel
theorem dX14_isDanger_6 : decode cX14_isDanger 6 = .ok (.invokeinterface 66 1, 5) := by decide +kernel
theorem dX14_isDanger_11 : decode cX14_isDanger 11 = .ok (.astore_n 2, 1) := by decide +kernel
theorem dX14_isDanger_12 : decode cX14_isDanger 12 = .ok (.aload_n 2, 1) := by decide +kernel
theorem dX14_isDanger_13 : decode cX14_isDanger 13 = .ok (.invokeinterface 70 1, 5) := by decide +kernel
theorem dX14_isDanger_18 : decode cX14_isDanger 18 = .ok (.ifCond .eq 80, 3) := by decide +kernel
theorem dX14_isDanger_98 : decode cX14_isDanger 98 = .ok (.iload_n 1, 1) := by decide +kernel
theorem dX14_isDanger_99 : decode cX14_isDanger 99 = .ok (.ireturn, 1) := by decide +kernel
set_option maxRecDepth 20000 in
theorem ggX14_timeLeft_X14_alive_k0 : GoodIn wsX14_timeLeft [.code yX14_alive cX14_alive 4 (some .int)] := goodIn_r _ [5] (by decide +kernel) (by decide +kernel)
set_option maxRecDepth 20000 in
theorem ggX14_timeLeft_X14_alive_k1 : GoodIn wsX14_timeLeft wsX14_alive_r1 := goodIn_r _ [6, 7, 8, 9, 10, 11, 12, 13, 14, 15, 16, 17, 18, 19, 20, 21, 22, 23, 24, 25, 26, 27, 28, 29] (by decide +kernel) (by decide +kernel)
set_option maxRecDepth 20000 in
theorem ggX14_timeLeft_X14_alive_k2 : GoodIn wsX14_timeLeft wsX14_alive_r2 := goodIn_r _ [30, 31, 32, 33, 34, 35, 36, 37, 38, 39, 40, 41] (by decide +kernel) (by decide +kernel)
set_option maxRecDepth 20000 in
theorem ggX14_timeLeft_X14_alive_k3 : GoodIn wsX14_timeLeft wsX140 := goodIn_r _ [247, 248, 249, 250, 251, 252, 253, 254, 255, 256, 257, 258, 259, 260] (by decide +kernel) (by decide +kernel)
set_option maxRecDepth 20000 in
theorem ggX14_timeLeft_X14_alive_k4 : GoodIn wsX14_timeLeft wsX120 := goodIn_r _ [261, 262, 263] (by decide +kernel) (by decide +kernel)
set_option maxRecDepth 20000 in
theorem ggX14_timeLeft_X14_alive_k5 : GoodIn wsX14_timeLeft wsJx354110 := goodIn_r _ [264, 265, 266, 267] (by decide +kernel) (by decide +kernel)
set_option maxRecDepth 20000 in
theorem ggX14_timeLeft_X14_alive_k6 : GoodIn wsX14_timeLeft wsJx4a65c0 := goodIn_r _ [268, 269, 270] (by decide +kernel) (by decide +kernel)
set_option maxRecDepth 20000 in
theorem ggX14_timeLeft_X14_alive : GoodIn wsX14_timeLeft wsX14_alive := goodIn_cons1 ggX14_timeLeft_X14_alive_k0 (goodIn_app (goodIn_app (goodIn_app (goodIn_app (goodIn_app ggX14_timeLeft_X14_alive_k1 ggX14_timeLeft_X14_alive_k2) ggX14_timeLeft_X14_alive_k3) ggX14_timeLeft_X14_alive_k4) ggX14_timeLeft_X14_alive_k5) ggX14_timeLeft_X14_alive_k6)
set_option maxRecDepth 20000 in
theorem gX14_timeLeft_X14_alive : GoodIn wsX14_timeLeft (wsV RX14 221 RX14 yX14_alive wsX14_alive) := goodIn_app (goodIn_of _ (by decide +kernel)) ggX14_timeLeft_X14_alive
set_option maxRecDepth 20000 in
theorem ggX14_timeLeft_X14_passes_k0 : GoodIn wsX14_timeLeft [.code yX14_passes cX14_passes 3 none] := goodIn_r _ [45] (by decide +kernel) (by decide +kernel)
set_option maxRecDepth 20000 in
theorem ggX14_timeLeft_X14_passes_k1 : GoodIn wsX14_timeLeft wsX14_passes_r1 := goodIn_r _ [46, 47, 48, 49, 50, 51, 52, 53, 54, 55, 56, 6, 7, 8, 57, 58, 59, 60, 61, 4, 62, 63, 64, 65] (by decide +kernel) (by decide +kernel)
set_option maxRecDepth 20000 in
theorem ggX14_timeLeft_X14_passes_k2 : GoodIn wsX14_timeLeft wsX14_passes_r2 := goodIn_r _ [66, 67, 68, 69, 70, 12, 71, 72, 73, 74, 75, 76, 77, 78, 79, 80, 81, 82, 83, 84, 85, 86, 87, 88] (by decide +kernel) (by decide +kernel)
set_option maxRecDepth 20000 in
theorem ggX14_timeLeft_X14_passes_k3 : GoodIn wsX14_timeLeft wsX14_passes_r3 := goodIn_r _ [89, 90, 91, 92, 93, 94, 95, 96, 97, 98, 26, 99, 100, 101, 102, 103, 104, 105, 106, 107, 108, 109, 110, 111] (by decide +kernel) (by decide +kernel)
set_option maxRecDepth 20000 in
theorem ggX14_timeLeft_X14_passes_k4 : GoodIn wsX14_timeLeft wsX14_passes_r4 := goodIn_r _ [112, 113, 22, 23, 114, 115, 116, 117, 118, 119, 120, 121, 122, 123, 124, 125, 126, 127, 128, 129, 130, 131, 132, 133] (by decide +kernel) (by decide +kernel)
set_option maxRecDepth 20000 in
theorem ggX14_timeLeft_X14_passes_k5 : GoodIn wsX14_timeLeft wsX14_passes_r5 := goodIn_r _ [134, 135, 136, 137, 138, 139, 140, 141, 142, 143, 144, 145, 146, 147, 148, 149, 150, 151, 152, 153, 154, 155, 156, 157] (by decide +kernel) (by decide +kernel)
set_option maxRecDepth 20000 in
theorem ggX14_timeLeft_X14_passes_k6 : GoodIn wsX14_timeLeft wsX14_passes_r6 := goodIn_r _ [158, 159, 160, 161, 162, 163, 164, 165, 166, 167, 168, 169, 170, 171, 172, 173, 174, 175, 176, 177, 178, 9, 10, 11] (by decide +kernel) (by decide +kernel)
set_option maxRecDepth 20000 in
theorem ggX14_timeLeft_X14_passes_k7 : GoodIn wsX14_timeLeft wsX14_passes_r7 := goodIn_r _ [13, 14, 15, 16, 17, 18, 19, 20, 21, 24, 25, 27, 28, 29, 30, 31, 32, 33, 34, 35, 36, 37, 38, 39] (by decide +kernel) (by decide +kernel)
set_option maxRecDepth 20000 in
theorem ggX14_timeLeft_X14_passes_k8 : GoodIn wsX14_timeLeft wsX14_passes_r8 := goodIn_r _ [40, 41, 179, 180, 181, 182, 183, 184, 185, 186, 187, 188, 189, 190, 191, 192, 193, 194, 195, 196, 197, 198, 199, 200] (by decide +kernel) (by decide +kernel)
set_option maxRecDepth 20000 in
theorem ggX14_timeLeft_X14_passes_k9 : GoodIn wsX14_timeLeft wsX14_passes_r9 := goodIn_r _ [201, 202, 203, 204, 205, 206, 207, 208, 209, 210, 211, 212, 213, 214, 215, 216, 217, 218, 219, 220, 221, 222, 223, 224] (by decide +kernel) (by decide +kernel)
set_option maxRecDepth 20000 in
theorem ggX14_timeLeft_X14_passes_k10 : GoodIn wsX14_timeLeft wsX14_passes_r10 := goodIn_r _ [225, 226, 227, 228, 229, 230, 231, 232, 233, 234, 235, 236, 237, 238, 239, 240, 241, 242, 243, 244, 245, 246] (by decide +kernel) (by decide +kernel)
set_option maxRecDepth 20000 in
theorem ggX14_timeLeft_X14_passes_k11 : GoodIn wsX14_timeLeft wsX140 := goodIn_r _ [247, 248, 249, 250, 251, 252, 253, 254, 255, 256, 257, 258, 259, 260] (by decide +kernel) (by decide +kernel)
set_option maxRecDepth 20000 in
theorem ggX14_timeLeft_X14_passes_k12 : GoodIn wsX14_timeLeft wsX110 := goodIn_r _ [271, 272, 273] (by decide +kernel) (by decide +kernel)
set_option maxRecDepth 20000 in
theorem ggX14_timeLeft_X14_passes_k13 : GoodIn wsX14_timeLeft wsX120 := goodIn_r _ [261, 262, 263] (by decide +kernel) (by decide +kernel)
set_option maxRecDepth 20000 in
theorem ggX14_timeLeft_X14_passes_k14 : GoodIn wsX14_timeLeft wsX90 := goodIn_r _ [274, 275, 276, 277] (by decide +kernel) (by decide +kernel)
set_option maxRecDepth 20000 in
theorem ggX14_timeLeft_X14_passes_k15 : GoodIn wsX14_timeLeft wsJx4a65c0 := goodIn_r _ [268, 269, 270] (by decide +kernel) (by decide +kernel)
set_option maxRecDepth 20000 in
theorem ggX14_timeLeft_X14_passes_k16 : GoodIn wsX14_timeLeft wsJ110 := goodIn_r _ [278] (by decide +kernel) (by decide +kernel)
set_option maxRecDepth 20000 in
theorem ggX14_timeLeft_X14_passes_k17 : GoodIn wsX14_timeLeft wsX100 := goodIn_r _ [279, 280, 281, 282] (by decide +kernel) (by decide +kernel)
set_option maxRecDepth 20000 in
theorem ggX14_timeLeft_X14_passes_k18 : GoodIn wsX14_timeLeft wsX130 := goodIn_r _ [283, 284, 285, 286] (by decide +kernel) (by decide +kernel)
set_option maxRecDepth 20000 in
theorem ggX14_timeLeft_X14_passes_k19 : GoodIn wsX14_timeLeft wsJx354110 := goodIn_r _ [264, 265, 266, 267] (by decide +kernel) (by decide +kernel)
set_option maxRecDepth 20000 in
theorem ggX14_timeLeft_X14_passes_k20 : GoodIn wsX14_timeLeft wsJ60 := goodIn_r _ [287] (by decide +kernel) (by decide +kernel)
set_option maxRecDepth 20000 in
theorem ggX14_timeLeft_X14_passes : GoodIn wsX14_timeLeft wsX14_passes := goodIn_cons1 ggX14_timeLeft_X14_passes_k0 (goodIn_app (goodIn_app (goodIn_app (goodIn_app (goodIn_app (goodIn_app (goodIn_app (goodIn_app (goodIn_app (goodIn_app (goodIn_app ggX14_timeLeft_X14_passes_k1 (goodIn_app ggX14_timeLeft_X14_passes_k2 (goodIn_app ggX14_timeLeft_X14_passes_k3 (goodIn_app ggX14_timeLeft_X14_passes_k4 (goodIn_app ggX14_timeLeft_X14_passes_k5 (goodIn_app ggX14_timeLeft_X14_passes_k6 (goodIn_app ggX14_timeLeft_X14_passes_k7 (goodIn_app ggX14_timeLeft_X14_passes_k8 (goodIn_app ggX14_timeLeft_X14_passes_k9 ggX14_timeLeft_X14_passes_k10))))))))) ggX14_timeLeft_X14_passes_k11) ggX14_timeLeft_X14_passes_k12) ggX14_timeLeft_X14_passes_k13) ggX14_timeLeft_X14_passes_k14) ggX14_timeLeft_X14_passes_k15) ggX14_timeLeft_X14_passes_k16) ggX14_timeLeft_X14_passes_k17) ggX14_timeLeft_X14_passes_k18) ggX14_timeLeft_X14_passes_k19) ggX14_timeLeft_X14_passes_k20)
set_option maxRecDepth 20000 in
theorem gX14_timeLeft_X14_passes : GoodIn wsX14_timeLeft (wsV RX14 224 RX14 yX14_passes wsX14_passes) := goodIn_app (goodIn_of _ (by decide +kernel)) ggX14_timeLeft_X14_passes
theorem dX14_timeLeft_0 : decode cX14_timeLeft 0 = .ok (.aload_n 0, 1) := by decide +kernel
theorem dX14_timeLeft_1 : decode cX14_timeLeft 1 = .ok (.invokevirtual 221, 3) := by decide +kernel
theorem dX14_timeLeft_4 : decode cX14_timeLeft 4 = .ok (.istore_n 1, 1) := by decide +kernel
theorem dX14_timeLeft_5 : decode cX14_timeLeft 5 = .ok (.iconst 0, 1) := by decide +kernel
theorem dX14_timeLeft_6 : decode cX14_timeLeft 6 = .ok (.istore_n 2, 1) := by decide +kernel
theorem dX14_timeLeft_7 : decode cX14_timeLeft 7 = .ok (.iload_n 2, 1) := by decide +kernel
theorem dX14_timeLeft_8 : decode cX14_timeLeft 8 = .ok (.sipush 300, 3) := by decide +kernel
theorem dX14_timeLeft_11 : decode cX14_timeLeft 11 = .ok (.if_icmp .ge 21, 3) := by decide +kernel
theorem dX14_timeLeft_14 : decode cX14_timeLeft 14 = .ok (.aload_n 0, 1) := by decide +kernel
theorem dX14_timeLeft_15 : decode cX14_timeLeft 15 = .ok (.invokevirtual 221, 3) := by decide +kernel
theorem dX14_timeLeft_18 : decode cX14_timeLeft 18 = .ok (.iload_n 1, 1) := by decide +kernel
theorem dX14_timeLeft_19 : decode cX14_timeLeft 19 = .ok (.if_icmp .ne 13, 3) := by decide +kernel
theorem dX14_timeLeft_22 : decode cX14_timeLeft 22 = .ok (.aload_n 0, 1) := by decide +kernel
theorem dX14_timeLeft_23 : decode cX14_timeLeft 23 = .ok (.invokevirtual 224, 3) := by decide +kernel
theorem dX14_timeLeft_26 : decode cX14_timeLeft 26 = .ok (.iinc 2 1, 3) := by decide +kernel
theorem dX14_timeLeft_29 : decode cX14_timeLeft 29 = .ok (.goto (-22), 3) := by decide +kernel
theorem dX14_timeLeft_32 : decode cX14_timeLeft 32 = .ok (.iload_n 2, 1) := by decide +kernel
theorem dX14_timeLeft_33 : decode cX14_timeLeft 33 = .ok (.ireturn, 1) := by decide +kernel
set_option maxRecDepth 20000 in
theorem ggX15_init_X14_init : GoodIn wsX15_init wsX14_init := goodIn_r _ [9, 10, 2, 3, 11, 12, 13, 14, 15, 16, 17, 18, 19, 20, 21, 22, 23, 24, 25, 26, 27, 28, 29, 30, 31, 32, 33, 34, 35, 36, 37, 38, 39, 40, 41, 42, 59, 60, 61, 43, 44, 45, 46, 47, 48, 49, 50, 51, 52, 53, 54, 55, 56] (by decide +kernel) (by decide +kernel)
set_option maxRecDepth 20000 in
theorem gX15_init_X14_init_n9 : GoodIn wsX15_init (wsX14_init) := ggX15_init_X14_init
theorem dX15_init_0 : decode cX15_init 0 = .ok (.aload_n 0, 1) := by decide +kernel
theorem dX15_init_1 : decode cX15_init 1 = .ok (.invokespecial 1, 3) := by decide +kernel
theorem dX15_init_4 : decode cX15_init 4 = .ok (.aload_n 0, 1) := by decide +kernel
theorem dX15_init_5 : decode cX15_init 5 = .ok (.new 7, 3) := by decide +kernel
theorem dX15_init_8 : decode cX15_init 8 = .ok (.dup, 1) := by decide +kernel
theorem dX15_init_9 : decode cX15_init 9 = .ok (.invokespecial 9, 3) := by decide +kernel
theorem dX15_init_12 : decode cX15_init 12 = .ok (.putfield 10, 3) := by decide +kernel
theorem dX15_init_15 : decode cX15_init 15 = .ok (.return_, 1) := by decide +kernel
theorem dX15_thrown_0 : decode cX15_thrown 0 = .ok (.aload_n 0, 1) := by decide +kernel
theorem dX15_thrown_1 : decode cX15_thrown 1 = .ok (.getfield 16, 3) := by decide +kernel
theorem dX15_thrown_4 : decode cX15_thrown 4 = .ok (.ireturn, 1) := by decide +kernel
theorem dX15_refuse_0 : decode cX15_refuse 0 = .ok (.aload_n 0, 1) := by decide +kernel
theorem dX15_refuse_1 : decode cX15_refuse 1 = .ok (.iload_n 1, 1) := by decide +kernel
theorem dX15_refuse_2 : decode cX15_refuse 2 = .ok (.putfield 16, 3) := by decide +kernel
theorem dX15_refuse_5 : decode cX15_refuse 5 = .ok (.iconst 0, 1) := by decide +kernel
theorem dX15_refuse_6 : decode cX15_refuse 6 = .ok (.ireturn, 1) := by decide +kernel
theorem dX15_isIn_0 : decode cX15_isIn 0 = .ok (.iload_n 0, 1) := by decide +kernel
theorem dX15_isIn_1 : decode cX15_isIn 1 = .ok (.iload_n 1, 1) := by decide +kernel
theorem dX15_isIn_2 : decode cX15_isIn 2 = .ok (.if_icmp .lt 12, 3) := by decide +kernel
theorem dX15_isIn_5 : decode cX15_isIn 5 = .ok (.iload_n 0, 1) := by decide +kernel
theorem dX15_isIn_6 : decode cX15_isIn 6 = .ok (.iload_n 2, 1) := by decide +kernel
theorem dX15_isIn_7 : decode cX15_isIn 7 = .ok (.if_icmp .gt 7, 3) := by decide +kernel
theorem dX15_isIn_10 : decode cX15_isIn 10 = .ok (.iconst 1, 1) := by decide +kernel
theorem dX15_isIn_11 : decode cX15_isIn 11 = .ok (.goto 4, 3) := by decide +kernel
theorem dX15_isIn_14 : decode cX15_isIn 14 = .ok (.iconst 0, 1) := by decide +kernel
theorem dX15_isIn_15 : decode cX15_isIn 15 = .ok (.ireturn, 1) := by decide +kernel
theorem dX15_no_0 : decode cX15_no 0 = .ok (.aload_n 0, 1) := by decide +kernel
theorem dX15_no_1 : decode cX15_no 1 = .ok (.iload_n 1, 1) := by decide +kernel
theorem dX15_no_2 : decode cX15_no 2 = .ok (.ifCond .eq 7, 3) := by decide +kernel
theorem dX15_no_5 : decode cX15_no 5 = .ok (.iconst 0, 1) := by decide +kernel
theorem dX15_no_6 : decode cX15_no 6 = .ok (.goto 4, 3) := by decide +kernel
theorem dX15_no_9 : decode cX15_no 9 = .ok (.iload_n 2, 1) := by decide +kernel
theorem dX15_no_10 : decode cX15_no 10 = .ok (.putfield 16, 3) := by decide +kernel
theorem dX15_no_13 : decode cX15_no 13 = .ok (.iload_n 1, 1) := by decide +kernel
theorem dX15_no_14 : decode cX15_no 14 = .ok (.ifCond .ne 7, 3) := by decide +kernel
theorem dX15_no_17 : decode cX15_no 17 = .ok (.iconst 1, 1) := by decide +kernel
theorem dX15_no_18 : decode cX15_no 18 = .ok (.goto 4, 3) := by decide +kernel
theorem dX15_no_21 : decode cX15_no 21 = .ok (.iconst 0, 1) := by decide +kernel
theorem dX15_no_22 : decode cX15_no 22 = .ok (.ireturn, 1) := by decide +kernel
set_option maxRecDepth 20000 in
theorem ggX15_isRoom_Jx4a65c_size_8abf5 : GoodIn wsX15_isRoom wsJx4a65c_size_8abf5 := goodIn_r _ [7, 8, 29, 30, 31] (by decide +kernel) (by decide +kernel)
set_option maxRecDepth 20000 in
theorem gX15_isRoom_Jx4a65c_size_8abf5_f24Jx4a65c : GoodIn wsX15_isRoom (va_wsF RX15 24 RJx4a65c ⟨"java/util/List", "size", "()I"⟩ yJx4a65c_size_8abf5 wsJx4a65c_size_8abf5) := goodIn_app (goodIn_of _ (by decide +kernel)) ggX15_isRoom_Jx4a65c_size_8abf5
set_option maxRecDepth 20000 in
theorem ggX15_isRoom_X15_isIn : GoodIn wsX15_isRoom wsX15_isIn := goodIn_r _ [12] (by decide +kernel) (by decide +kernel)
set_option maxRecDepth 20000 in
theorem gX15_isRoom_X15_isIn : GoodIn wsX15_isRoom (va_wsS RX15 30 yX15_isIn wsX15_isIn) := goodIn_app (goodIn_of _ (by decide +kernel)) ggX15_isRoom_X15_isIn
theorem dX15_isRoom_0 : decode cX15_isRoom 0 = .ok (.iload_n 1, 1) := by decide +kernel
theorem dX15_isRoom_1 : decode cX15_isRoom 1 = .ok (.iconst 0, 1) := by decide +kernel
theorem dX15_isRoom_2 : decode cX15_isRoom 2 = .ok (.aload_n 0, 1) := by decide +kernel
theorem dX15_isRoom_3 : decode cX15_isRoom 3 = .ok (.getfield 10, 3) := by decide +kernel
theorem dX15_isRoom_6 : decode cX15_isRoom 6 = .ok (.getfield 20, 3) := by decide +kernel
theorem dX15_isRoom_9 : decode cX15_isRoom 9 = .ok (.invokeinterface 24 1, 5) := by decide +kernel
theorem dX15_isRoom_14 : decode cX15_isRoom 14 = .ok (.iconst 1, 1) := by decide +kernel
theorem dX15_isRoom_15 : decode cX15_isRoom 15 = .ok (.isub, 1) := by decide +kernel
theorem dX15_isRoom_16 : decode cX15_isRoom 16 = .ok (.invokestatic 30, 3) := by decide +kernel
theorem dX15_isRoom_19 : decode cX15_isRoom 19 = .ok (.ireturn, 1) := by decide +kernel
set_option maxRecDepth 20000 in
theorem ggX15_isHatch_Jx4a65c_size_8abf5 : GoodIn wsX15_isHatch wsJx4a65c_size_8abf5 := goodIn_r _ [7, 8, 29, 30, 31] (by decide +kernel) (by decide +kernel)
set_option maxRecDepth 20000 in
theorem gX15_isHatch_Jx4a65c_size_8abf5_f24Jx4a65c : GoodIn wsX15_isHatch (va_wsF RX15 24 RJx4a65c ⟨"java/util/List", "size", "()I"⟩ yJx4a65c_size_8abf5 wsJx4a65c_size_8abf5) := goodIn_app (goodIn_of _ (by decide +kernel)) ggX15_isHatch_Jx4a65c_size_8abf5
set_option maxRecDepth 20000 in
theorem ggX15_isHatch_X15_isIn : GoodIn wsX15_isHatch wsX15_isIn := goodIn_r _ [12] (by decide +kernel) (by decide +kernel)
set_option maxRecDepth 20000 in
theorem gX15_isHatch_X15_isIn : GoodIn wsX15_isHatch (va_wsS RX15 30 yX15_isIn wsX15_isIn) := goodIn_app (goodIn_of _ (by decide +kernel)) ggX15_isHatch_X15_isIn
theorem dX15_isHatch_0 : decode cX15_isHatch 0 = .ok (.iload_n 1, 1) := by decide +kernel
theorem dX15_isHatch_1 : decode cX15_isHatch 1 = .ok (.iconst 0, 1) := by decide +kernel
theorem dX15_isHatch_2 : decode cX15_isHatch 2 = .ok (.aload_n 0, 1) := by decide +kernel
theorem dX15_isHatch_3 : decode cX15_isHatch 3 = .ok (.getfield 10, 3) := by decide +kernel
theorem dX15_isHatch_6 : decode cX15_isHatch 6 = .ok (.getfield 34, 3) := by decide +kernel
theorem dX15_isHatch_9 : decode cX15_isHatch 9 = .ok (.invokeinterface 24 1, 5) := by decide +kernel
theorem dX15_isHatch_14 : decode cX15_isHatch 14 = .ok (.iconst 1, 1) := by decide +kernel
theorem dX15_isHatch_15 : decode cX15_isHatch 15 = .ok (.isub, 1) := by decide +kernel
theorem dX15_isHatch_16 : decode cX15_isHatch 16 = .ok (.invokestatic 30, 3) := by decide +kernel
theorem dX15_isHatch_19 : decode cX15_isHatch 19 = .ok (.ireturn, 1) := by decide +kernel
set_option maxRecDepth 20000 in
theorem ggX15_isDevice_Jx4a65c_size_8abf5 : GoodIn wsX15_isDevice wsJx4a65c_size_8abf5 := goodIn_r _ [7, 8, 29, 30, 31] (by decide +kernel) (by decide +kernel)
set_option maxRecDepth 20000 in
theorem gX15_isDevice_Jx4a65c_size_8abf5_f24Jx4a65c : GoodIn wsX15_isDevice (va_wsF RX15 24 RJx4a65c ⟨"java/util/List", "size", "()I"⟩ yJx4a65c_size_8abf5 wsJx4a65c_size_8abf5) := goodIn_app (goodIn_of _ (by decide +kernel)) ggX15_isDevice_Jx4a65c_size_8abf5
set_option maxRecDepth 20000 in
theorem ggX15_isDevice_X15_isIn : GoodIn wsX15_isDevice wsX15_isIn := goodIn_r _ [12] (by decide +kernel) (by decide +kernel)
set_option maxRecDepth 20000 in
theorem gX15_isDevice_X15_isIn : GoodIn wsX15_isDevice (va_wsS RX15 30 yX15_isIn wsX15_isIn) := goodIn_app (goodIn_of _ (by decide +kernel)) ggX15_isDevice_X15_isIn
theorem dX15_isDevice_0 : decode cX15_isDevice 0 = .ok (.iload_n 1, 1) := by decide +kernel
theorem dX15_isDevice_1 : decode cX15_isDevice 1 = .ok (.iconst 0, 1) := by decide +kernel
theorem dX15_isDevice_2 : decode cX15_isDevice 2 = .ok (.aload_n 0, 1) := by decide +kernel
theorem dX15_isDevice_3 : decode cX15_isDevice 3 = .ok (.getfield 10, 3) := by decide +kernel
theorem dX15_isDevice_6 : decode cX15_isDevice 6 = .ok (.getfield 37, 3) := by decide +kernel
theorem dX15_isDevice_9 : decode cX15_isDevice 9 = .ok (.invokeinterface 24 1, 5) := by decide +kernel
theorem dX15_isDevice_14 : decode cX15_isDevice 14 = .ok (.iconst 1, 1) := by decide +kernel
theorem dX15_isDevice_15 : decode cX15_isDevice 15 = .ok (.isub, 1) := by decide +kernel
theorem dX15_isDevice_16 : decode cX15_isDevice 16 = .ok (.invokestatic 30, 3) := by decide +kernel
theorem dX15_isDevice_19 : decode cX15_isDevice 19 = .ok (.ireturn, 1) := by decide +kernel
set_option maxRecDepth 20000 in
theorem ggX15_noPerson_Jx4a65c_size_8abf5 : GoodIn wsX15_noPerson wsJx4a65c_size_8abf5 := goodIn_r _ [7, 8, 34, 35, 36] (by decide +kernel) (by decide +kernel)
set_option maxRecDepth 20000 in
theorem gX15_noPerson_Jx4a65c_size_8abf5_f24Jx4a65c : GoodIn wsX15_noPerson (va_wsF RX15 24 RJx4a65c ⟨"java/util/List", "size", "()I"⟩ yJx4a65c_size_8abf5 wsJx4a65c_size_8abf5) := goodIn_app (goodIn_of _ (by decide +kernel)) ggX15_noPerson_Jx4a65c_size_8abf5
set_option maxRecDepth 20000 in
theorem ggX15_noPerson_X15_isIn : GoodIn wsX15_noPerson wsX15_isIn := goodIn_r _ [12] (by decide +kernel) (by decide +kernel)
set_option maxRecDepth 20000 in
theorem gX15_noPerson_X15_isIn : GoodIn wsX15_noPerson (va_wsS RX15 30 yX15_isIn wsX15_isIn) := goodIn_app (goodIn_of _ (by decide +kernel)) ggX15_noPerson_X15_isIn
set_option maxRecDepth 20000 in
theorem ggX15_noPerson_X15_no : GoodIn wsX15_noPerson wsX15_no := goodIn_r _ [16, 17, 18, 19] (by decide +kernel) (by decide +kernel)
set_option maxRecDepth 20000 in
theorem gX15_noPerson_X15_no : GoodIn wsX15_noPerson (wsV RX15 43 RX15 yX15_no wsX15_no) := goodIn_app (goodIn_of _ (by decide +kernel)) ggX15_noPerson_X15_no
theorem dX15_noPerson_0 : decode cX15_noPerson 0 = .ok (.aload_n 0, 1) := by decide +kernel
theorem dX15_noPerson_1 : decode cX15_noPerson 1 = .ok (.iload_n 1, 1) := by decide +kernel
theorem dX15_noPerson_2 : decode cX15_noPerson 2 = .ok (.iconst 0, 1) := by decide +kernel
theorem dX15_noPerson_3 : decode cX15_noPerson 3 = .ok (.aload_n 0, 1) := by decide +kernel
theorem dX15_noPerson_4 : decode cX15_noPerson 4 = .ok (.getfield 10, 3) := by decide +kernel
theorem dX15_noPerson_7 : decode cX15_noPerson 7 = .ok (.getfield 40, 3) := by decide +kernel
theorem dX15_noPerson_10 : decode cX15_noPerson 10 = .ok (.invokeinterface 24 1, 5) := by decide +kernel
theorem dX15_noPerson_15 : decode cX15_noPerson 15 = .ok (.iconst 1, 1) := by decide +kernel
theorem dX15_noPerson_16 : decode cX15_noPerson 16 = .ok (.isub, 1) := by decide +kernel
theorem dX15_noPerson_17 : decode cX15_noPerson 17 = .ok (.invokestatic 30, 3) := by decide +kernel
theorem dX15_noPerson_20 : decode cX15_noPerson 20 = .ok (.iconst 1, 1) := by decide +kernel
theorem dX15_noPerson_21 : decode cX15_noPerson 21 = .ok (.invokevirtual 43, 3) := by decide +kernel
theorem dX15_noPerson_24 : decode cX15_noPerson 24 = .ok (.ireturn, 1) := by decide +kernel
set_option maxRecDepth 20000 in
theorem ggX15_addRoom_X15_isIn : GoodIn wsX15_addRoom wsX15_isIn := goodIn_r _ [8] (by decide +kernel) (by decide +kernel)
set_option maxRecDepth 20000 in
theorem gX15_addRoom_X15_isIn : GoodIn wsX15_addRoom (va_wsS RX15 30 yX15_isIn wsX15_isIn) := goodIn_app (goodIn_of _ (by decide +kernel)) ggX15_addRoom_X15_isIn
set_option maxRecDepth 20000 in
theorem ggX15_addRoom_X15_no : GoodIn wsX15_addRoom wsX15_no := goodIn_r _ [12, 13, 93, 94] (by decide +kernel) (by decide +kernel)
set_option maxRecDepth 20000 in
theorem gX15_addRoom_X15_no : GoodIn wsX15_addRoom (wsV RX15 43 RX15 yX15_no wsX15_no) := goodIn_app (goodIn_of _ (by decide +kernel)) ggX15_addRoom_X15_no
set_option maxRecDepth 20000 in
theorem ggX15_addRoom_Jx4a65c_size_8abf5 : GoodIn wsX15_addRoom wsJx4a65c_size_8abf5 := goodIn_r _ [18, 19, 109, 110, 111] (by decide +kernel) (by decide +kernel)
set_option maxRecDepth 20000 in
theorem gX15_addRoom_Jx4a65c_size_8abf5_f24Jx4a65c : GoodIn wsX15_addRoom (va_wsF RX15 24 RJx4a65c ⟨"java/util/List", "size", "()I"⟩ yJx4a65c_size_8abf5 wsJx4a65c_size_8abf5) := goodIn_app (goodIn_of _ (by decide +kernel)) ggX15_addRoom_Jx4a65c_size_8abf5
set_option maxRecDepth 20000 in
theorem ggX15_addRoom_J6_valueOf_2dffe : GoodIn wsX15_addRoom wsJ6_valueOf_2dffe := goodIn_r _ [23, 24, 25, 26, 27, 22, 28, 29, 30, 31, 32, 33, 34, 35, 36, 37, 38, 112] (by decide +kernel) (by decide +kernel)
set_option maxRecDepth 20000 in
theorem gX15_addRoom_J6_valueOf_2dffe : GoodIn wsX15_addRoom (va_wsS RX15 47 yJ6_valueOf_2dffe wsJ6_valueOf_2dffe) := goodIn_app (goodIn_of _ (by decide +kernel)) ggX15_addRoom_J6_valueOf_2dffe
set_option maxRecDepth 20000 in
theorem ggX15_addRoom_Jx4a65c_add_9ea2d : GoodIn wsX15_addRoom wsJx4a65c_add_9ea2d := goodIn_r _ [42, 43, 44, 45, 19, 46, 47, 48, 17, 49, 50, 51, 52, 53, 54, 55, 56, 57, 58, 59, 60, 61, 62, 63, 64, 65, 66, 67, 68, 69, 70, 71, 72, 73, 74, 75, 76, 77, 78, 79, 80, 81, 82, 83, 84, 85, 86, 87, 88, 89, 90, 91, 92, 109, 110, 111] (by decide +kernel) (by decide +kernel)
set_option maxRecDepth 20000 in
theorem gX15_addRoom_Jx4a65c_add_9ea2d_f53Jx4a65c : GoodIn wsX15_addRoom (va_wsF RX15 53 RJx4a65c ⟨"java/util/List", "add", "(Ljava/lang/Object;)Z"⟩ yJx4a65c_add_9ea2d wsJx4a65c_add_9ea2d) := goodIn_app (goodIn_of _ (by decide +kernel)) ggX15_addRoom_Jx4a65c_add_9ea2d
theorem dX15_addRoom_0 : decode cX15_addRoom 0 = .ok (.aload_n 0, 1) := by decide +kernel
theorem dX15_addRoom_1 : decode cX15_addRoom 1 = .ok (.iload_n 1, 1) := by decide +kernel
theorem dX15_addRoom_2 : decode cX15_addRoom 2 = .ok (.iconst 0, 1) := by decide +kernel
theorem dX15_addRoom_3 : decode cX15_addRoom 3 = .ok (.sipush 200, 3) := by decide +kernel
theorem dX15_addRoom_6 : decode cX15_addRoom 6 = .ok (.invokestatic 30, 3) := by decide +kernel
theorem dX15_addRoom_9 : decode cX15_addRoom 9 = .ok (.iconst 1, 1) := by decide +kernel
theorem dX15_addRoom_10 : decode cX15_addRoom 10 = .ok (.invokevirtual 43, 3) := by decide +kernel
theorem dX15_addRoom_13 : decode cX15_addRoom 13 = .ok (.ifCond .ne 33, 3) := by decide +kernel
theorem dX15_addRoom_16 : decode cX15_addRoom 16 = .ok (.aload_n 0, 1) := by decide +kernel
theorem dX15_addRoom_17 : decode cX15_addRoom 17 = .ok (.aload_n 0, 1) := by decide +kernel
theorem dX15_addRoom_18 : decode cX15_addRoom 18 = .ok (.getfield 10, 3) := by decide +kernel
theorem dX15_addRoom_21 : decode cX15_addRoom 21 = .ok (.getfield 20, 3) := by decide +kernel
theorem dX15_addRoom_24 : decode cX15_addRoom 24 = .ok (.invokeinterface 24 1, 5) := by decide +kernel
theorem dX15_addRoom_29 : decode cX15_addRoom 29 = .ok (.bipush 6, 2) := by decide +kernel
theorem dX15_addRoom_31 : decode cX15_addRoom 31 = .ok (.if_icmp .ge 7, 3) := by decide +kernel
theorem dX15_addRoom_34 : decode cX15_addRoom 34 = .ok (.iconst 1, 1) := by decide +kernel
theorem dX15_addRoom_35 : decode cX15_addRoom 35 = .ok (.goto 4, 3) := by decide +kernel
theorem dX15_addRoom_39 : decode cX15_addRoom 39 = .ok (.iconst 2, 1) := by decide +kernel
theorem dX15_addRoom_40 : decode cX15_addRoom 40 = .ok (.invokevirtual 43, 3) := by decide +kernel
theorem dX15_addRoom_43 : decode cX15_addRoom 43 = .ok (.ifCond .eq 5, 3) := by decide +kernel
theorem dX15_addRoom_46 : decode cX15_addRoom 46 = .ok (.iconst 0, 1) := by decide +kernel
theorem dX15_addRoom_47 : decode cX15_addRoom 47 = .ok (.ireturn, 1) := by decide +kernel
theorem dX15_addRoom_48 : decode cX15_addRoom 48 = .ok (.aload_n 0, 1) := by decide +kernel
theorem dX15_addRoom_49 : decode cX15_addRoom 49 = .ok (.getfield 10, 3) := by decide +kernel
theorem dX15_addRoom_52 : decode cX15_addRoom 52 = .ok (.getfield 20, 3) := by decide +kernel
theorem dX15_addRoom_55 : decode cX15_addRoom 55 = .ok (.iload_n 1, 1) := by decide +kernel
theorem dX15_addRoom_56 : decode cX15_addRoom 56 = .ok (.invokestatic 47, 3) := by decide +kernel
theorem dX15_addRoom_59 : decode cX15_addRoom 59 = .ok (.invokeinterface 53 2, 5) := by decide +kernel
theorem dX15_addRoom_64 : decode cX15_addRoom 64 = .ok (.pop, 1) := by decide +kernel
theorem dX15_addRoom_65 : decode cX15_addRoom 65 = .ok (.aload_n 0, 1) := by decide +kernel
theorem dX15_addRoom_66 : decode cX15_addRoom 66 = .ok (.getfield 10, 3) := by decide +kernel
theorem dX15_addRoom_69 : decode cX15_addRoom 69 = .ok (.getfield 57, 3) := by decide +kernel
theorem dX15_addRoom_72 : decode cX15_addRoom 72 = .ok (.iconst 0, 1) := by decide +kernel
theorem dX15_addRoom_73 : decode cX15_addRoom 73 = .ok (.invokestatic 47, 3) := by decide +kernel
theorem dX15_addRoom_76 : decode cX15_addRoom 76 = .ok (.invokeinterface 53 2, 5) := by decide +kernel
theorem dX15_addRoom_81 : decode cX15_addRoom 81 = .ok (.pop, 1) := by decide +kernel
theorem dX15_addRoom_82 : decode cX15_addRoom 82 = .ok (.aload_n 0, 1) := by decide +kernel
theorem dX15_addRoom_83 : decode cX15_addRoom 83 = .ok (.getfield 10, 3) := by decide +kernel
theorem dX15_addRoom_86 : decode cX15_addRoom 86 = .ok (.getfield 60, 3) := by decide +kernel
theorem dX15_addRoom_89 : decode cX15_addRoom 89 = .ok (.iconst 0, 1) := by decide +kernel
theorem dX15_addRoom_90 : decode cX15_addRoom 90 = .ok (.invokestatic 47, 3) := by decide +kernel
theorem dX15_addRoom_93 : decode cX15_addRoom 93 = .ok (.invokeinterface 53 2, 5) := by decide +kernel
theorem dX15_addRoom_98 : decode cX15_addRoom 98 = .ok (.pop, 1) := by decide +kernel
theorem dX15_addRoom_99 : decode cX15_addRoom 99 = .ok (.aload_n 0, 1) := by decide +kernel
theorem dX15_addRoom_100 : decode cX15_addRoom 100 = .ok (.getfield 10, 3) := by decide +kernel
theorem dX15_addRoom_103 : decode cX15_addRoom 103 = .ok (.getfield 20, 3) := by decide +kernel
theorem dX15_addRoom_106 : decode cX15_addRoom 106 = .ok (.invokeinterface 24 1, 5) := by decide +kernel
theorem dX15_addRoom_111 : decode cX15_addRoom 111 = .ok (.iconst 1, 1) := by decide +kernel
theorem dX15_addRoom_112 : decode cX15_addRoom 112 = .ok (.isub, 1) := by decide +kernel
theorem dX15_addRoom_113 : decode cX15_addRoom 113 = .ok (.ireturn, 1) := by decide +kernel
set_option maxRecDepth 20000 in
theorem ggX15_addHatch_X15_isRoom : GoodIn wsX15_addHatch wsX15_isRoom := goodIn_r _ [10, 1, 11, 12, 13, 14, 15, 16, 17, 18, 19, 9, 20, 89, 90, 91, 92, 93, 94, 95, 96, 97, 98, 99, 100, 101, 102, 103, 104, 108, 109, 110] (by decide +kernel) (by decide +kernel)
set_option maxRecDepth 20000 in
theorem gX15_addHatch_X15_isRoom : GoodIn wsX15_addHatch (wsV RX15 63 RX15 yX15_isRoom wsX15_isRoom) := goodIn_app (goodIn_of _ (by decide +kernel)) ggX15_addHatch_X15_isRoom
set_option maxRecDepth 20000 in
theorem ggX15_addHatch_X15_no : GoodIn wsX15_addHatch wsX15_no := goodIn_r _ [24, 25, 89, 90] (by decide +kernel) (by decide +kernel)
set_option maxRecDepth 20000 in
theorem gX15_addHatch_X15_no : GoodIn wsX15_addHatch (wsV RX15 43 RX15 yX15_no wsX15_no) := goodIn_app (goodIn_of _ (by decide +kernel)) ggX15_addHatch_X15_no
theorem dX15_addHatch_0 : decode cX15_addHatch 0 = .ok (.aload_n 0, 1) := by decide +kernel
theorem dX15_addHatch_1 : decode cX15_addHatch 1 = .ok (.aload_n 0, 1) := by decide +kernel
theorem dX15_addHatch_2 : decode cX15_addHatch 2 = .ok (.iload_n 1, 1) := by decide +kernel
theorem dX15_addHatch_3 : decode cX15_addHatch 3 = .ok (.invokevirtual 63, 3) := by decide +kernel
theorem dX15_addHatch_6 : decode cX15_addHatch 6 = .ok (.ifCond .eq 15, 3) := by decide +kernel
theorem dX15_addHatch_21 : decode cX15_addHatch 21 = .ok (.iconst 0, 1) := by decide +kernel
theorem dX15_addHatch_22 : decode cX15_addHatch 22 = .ok (.iconst 1, 1) := by decide +kernel
theorem dX15_addHatch_23 : decode cX15_addHatch 23 = .ok (.invokevirtual 43, 3) := by decide +kernel
theorem dX15_addHatch_26 : decode cX15_addHatch 26 = .ok (.ifCond .ne 51, 3) := by decide +kernel
theorem dX15_addHatch_77 : decode cX15_addHatch 77 = .ok (.iconst 0, 1) := by decide +kernel
theorem dX15_addHatch_78 : decode cX15_addHatch 78 = .ok (.ireturn, 1) := by decide +kernel
set_option maxRecDepth 20000 in
theorem ggX15_setHatch_X15_isHatch : GoodIn wsX15_setHatch wsX15_isHatch := goodIn_r _ [9, 1, 2, 10, 11, 12, 13, 14, 15, 16, 17, 8, 18, 41, 42, 43, 44, 45, 46, 47, 48, 49, 50, 51, 52, 53, 54, 55, 56, 60, 61, 62] (by decide +kernel) (by decide +kernel)
set_option maxRecDepth 20000 in
theorem gX15_setHatch_X15_isHatch : GoodIn wsX15_setHatch (wsV RX15 72 RX15 yX15_isHatch wsX15_isHatch) := goodIn_app (goodIn_of _ (by decide +kernel)) ggX15_setHatch_X15_isHatch
set_option maxRecDepth 20000 in
theorem ggX15_setHatch_X15_no : GoodIn wsX15_setHatch wsX15_no := goodIn_r _ [22, 23, 41, 42] (by decide +kernel) (by decide +kernel)
set_option maxRecDepth 20000 in
theorem gX15_setHatch_X15_no : GoodIn wsX15_setHatch (wsV RX15 43 RX15 yX15_no wsX15_no) := goodIn_app (goodIn_of _ (by decide +kernel)) ggX15_setHatch_X15_no
theorem dX15_setHatch_0 : decode cX15_setHatch 0 = .ok (.aload_n 0, 1) := by decide +kernel
theorem dX15_setHatch_1 : decode cX15_setHatch 1 = .ok (.aload_n 0, 1) := by decide +kernel
theorem dX15_setHatch_2 : decode cX15_setHatch 2 = .ok (.iload_n 1, 1) := by decide +kernel
theorem dX15_setHatch_3 : decode cX15_setHatch 3 = .ok (.invokevirtual 72, 3) := by decide +kernel
theorem dX15_setHatch_6 : decode cX15_setHatch 6 = .ok (.iconst 1, 1) := by decide +kernel
theorem dX15_setHatch_7 : decode cX15_setHatch 7 = .ok (.invokevirtual 43, 3) := by decide +kernel
theorem dX15_setHatch_10 : decode cX15_setHatch 10 = .ok (.ifCond .eq 5, 3) := by decide +kernel
theorem dX15_setHatch_13 : decode cX15_setHatch 13 = .ok (.iconst 0, 1) := by decide +kernel
theorem dX15_setHatch_14 : decode cX15_setHatch 14 = .ok (.ireturn, 1) := by decide +kernel
set_option maxRecDepth 20000 in
theorem ggX15_setLeak_X15_isRoom : GoodIn wsX15_setLeak wsX15_isRoom := goodIn_r _ [8, 1, 9, 10, 11, 12, 13, 14, 15, 16, 17, 7, 18, 64, 65, 66, 67, 68, 69, 70, 71, 72, 73, 74, 75, 76, 77, 78, 79, 80, 81, 82] (by decide +kernel) (by decide +kernel)
set_option maxRecDepth 20000 in
theorem gX15_setLeak_X15_isRoom : GoodIn wsX15_setLeak (wsV RX15 63 RX15 yX15_isRoom wsX15_isRoom) := goodIn_app (goodIn_of _ (by decide +kernel)) ggX15_setLeak_X15_isRoom
set_option maxRecDepth 20000 in
theorem ggX15_setLeak_X15_no : GoodIn wsX15_setLeak wsX15_no := goodIn_r _ [22, 23, 64, 65] (by decide +kernel) (by decide +kernel)
set_option maxRecDepth 20000 in
theorem gX15_setLeak_X15_no : GoodIn wsX15_setLeak (wsV RX15 43 RX15 yX15_no wsX15_no) := goodIn_app (goodIn_of _ (by decide +kernel)) ggX15_setLeak_X15_no
theorem dX15_setLeak_0 : decode cX15_setLeak 0 = .ok (.aload_n 0, 1) := by decide +kernel
theorem dX15_setLeak_1 : decode cX15_setLeak 1 = .ok (.aload_n 0, 1) := by decide +kernel
theorem dX15_setLeak_2 : decode cX15_setLeak 2 = .ok (.iload_n 1, 1) := by decide +kernel
theorem dX15_setLeak_3 : decode cX15_setLeak 3 = .ok (.invokevirtual 63, 3) := by decide +kernel
theorem dX15_setLeak_6 : decode cX15_setLeak 6 = .ok (.iconst 1, 1) := by decide +kernel
theorem dX15_setLeak_7 : decode cX15_setLeak 7 = .ok (.invokevirtual 43, 3) := by decide +kernel
theorem dX15_setLeak_10 : decode cX15_setLeak 10 = .ok (.ifCond .ne 18, 3) := by decide +kernel
theorem dX15_setLeak_28 : decode cX15_setLeak 28 = .ok (.iconst 0, 1) := by decide +kernel
theorem dX15_setLeak_29 : decode cX15_setLeak 29 = .ok (.goto 26, 3) := by decide +kernel
theorem dX15_setLeak_55 : decode cX15_setLeak 55 = .ok (.ireturn, 1) := by decide +kernel
set_option maxRecDepth 20000 in
theorem ggX15_addDevice_X15_no : GoodIn wsX15_addDevice wsX15_no := goodIn_r _ [10, 11, 90, 91] (by decide +kernel) (by decide +kernel)
set_option maxRecDepth 20000 in
theorem gX15_addDevice_X15_no : GoodIn wsX15_addDevice (wsV RX15 43 RX15 yX15_no wsX15_no) := goodIn_app (goodIn_of _ (by decide +kernel)) ggX15_addDevice_X15_no
set_option maxRecDepth 20000 in
theorem ggX15_addDevice_X15_isRoom : GoodIn wsX15_addDevice wsX15_isRoom := goodIn_r _ [15, 1, 16, 17, 18, 19, 20, 21, 22, 23, 24, 9, 25, 90, 91, 92, 93, 94, 95, 96, 97, 98, 99, 100, 101, 102, 103, 104, 105, 110, 111, 112] (by decide +kernel) (by decide +kernel)
set_option maxRecDepth 20000 in
theorem gX15_addDevice_X15_isRoom : GoodIn wsX15_addDevice (wsV RX15 63 RX15 yX15_isRoom wsX15_isRoom) := goodIn_app (goodIn_of _ (by decide +kernel)) ggX15_addDevice_X15_isRoom
theorem dX15_addDevice_0 : decode cX15_addDevice 0 = .ok (.aload_n 0, 1) := by decide +kernel
theorem dX15_addDevice_1 : decode cX15_addDevice 1 = .ok (.iload_n 1, 1) := by decide +kernel
theorem dX15_addDevice_2 : decode cX15_addDevice 2 = .ok (.bipush 115, 2) := by decide +kernel
theorem dX15_addDevice_4 : decode cX15_addDevice 4 = .ok (.if_icmp .eq 15, 3) := by decide +kernel
theorem dX15_addDevice_7 : decode cX15_addDevice 7 = .ok (.iload_n 1, 1) := by decide +kernel
theorem dX15_addDevice_8 : decode cX15_addDevice 8 = .ok (.bipush 101, 2) := by decide +kernel
theorem dX15_addDevice_10 : decode cX15_addDevice 10 = .ok (.if_icmp .eq 9, 3) := by decide +kernel
theorem dX15_addDevice_13 : decode cX15_addDevice 13 = .ok (.iload_n 1, 1) := by decide +kernel
theorem dX15_addDevice_14 : decode cX15_addDevice 14 = .ok (.bipush 108, 2) := by decide +kernel
theorem dX15_addDevice_16 : decode cX15_addDevice 16 = .ok (.if_icmp .ne 7, 3) := by decide +kernel
theorem dX15_addDevice_19 : decode cX15_addDevice 19 = .ok (.iconst 1, 1) := by decide +kernel
theorem dX15_addDevice_20 : decode cX15_addDevice 20 = .ok (.goto 4, 3) := by decide +kernel
theorem dX15_addDevice_23 : decode cX15_addDevice 23 = .ok (.iconst 0, 1) := by decide +kernel
theorem dX15_addDevice_24 : decode cX15_addDevice 24 = .ok (.iconst 1, 1) := by decide +kernel
theorem dX15_addDevice_25 : decode cX15_addDevice 25 = .ok (.invokevirtual 43, 3) := by decide +kernel
theorem dX15_addDevice_28 : decode cX15_addDevice 28 = .ok (.ifCond .ne 46, 3) := by decide +kernel
theorem dX15_addDevice_31 : decode cX15_addDevice 31 = .ok (.aload_n 0, 1) := by decide +kernel
theorem dX15_addDevice_32 : decode cX15_addDevice 32 = .ok (.aload_n 0, 1) := by decide +kernel
theorem dX15_addDevice_33 : decode cX15_addDevice 33 = .ok (.iload_n 2, 1) := by decide +kernel
theorem dX15_addDevice_34 : decode cX15_addDevice 34 = .ok (.invokevirtual 63, 3) := by decide +kernel
theorem dX15_addDevice_37 : decode cX15_addDevice 37 = .ok (.iconst 2, 1) := by decide +kernel
theorem dX15_addDevice_38 : decode cX15_addDevice 38 = .ok (.invokevirtual 43, 3) := by decide +kernel
theorem dX15_addDevice_41 : decode cX15_addDevice 41 = .ok (.ifCond .ne 33, 3) := by decide +kernel
theorem dX15_addDevice_74 : decode cX15_addDevice 74 = .ok (.iconst 0, 1) := by decide +kernel
theorem dX15_addDevice_75 : decode cX15_addDevice 75 = .ok (.ireturn, 1) := by decide +kernel
set_option maxRecDepth 20000 in
theorem ggX15_setDevice_X15_isDevice : GoodIn wsX15_setDevice wsX15_isDevice := goodIn_r _ [11, 1, 2, 12, 13, 14, 15, 16, 17, 18, 19, 10, 20, 43, 44, 45, 46, 47, 48, 49, 50, 51, 52, 53, 54, 55, 56, 57, 58, 63, 64, 65] (by decide +kernel) (by decide +kernel)
set_option maxRecDepth 20000 in
theorem gX15_setDevice_X15_isDevice : GoodIn wsX15_setDevice (wsV RX15 95 RX15 yX15_isDevice wsX15_isDevice) := goodIn_app (goodIn_of _ (by decide +kernel)) ggX15_setDevice_X15_isDevice
set_option maxRecDepth 20000 in
theorem ggX15_setDevice_X15_no : GoodIn wsX15_setDevice wsX15_no := goodIn_r _ [24, 25, 43, 44] (by decide +kernel) (by decide +kernel)
set_option maxRecDepth 20000 in
theorem gX15_setDevice_X15_no : GoodIn wsX15_setDevice (wsV RX15 43 RX15 yX15_no wsX15_no) := goodIn_app (goodIn_of _ (by decide +kernel)) ggX15_setDevice_X15_no
theorem dX15_setDevice_0 : decode cX15_setDevice 0 = .ok (.aload_n 0, 1) := by decide +kernel
theorem dX15_setDevice_1 : decode cX15_setDevice 1 = .ok (.aload_n 0, 1) := by decide +kernel
theorem dX15_setDevice_2 : decode cX15_setDevice 2 = .ok (.iload_n 1, 1) := by decide +kernel
theorem dX15_setDevice_3 : decode cX15_setDevice 3 = .ok (.invokevirtual 95, 3) := by decide +kernel
theorem dX15_setDevice_6 : decode cX15_setDevice 6 = .ok (.iconst 1, 1) := by decide +kernel
theorem dX15_setDevice_7 : decode cX15_setDevice 7 = .ok (.invokevirtual 43, 3) := by decide +kernel
theorem dX15_setDevice_10 : decode cX15_setDevice 10 = .ok (.ifCond .eq 5, 3) := by decide +kernel
theorem dX15_setDevice_13 : decode cX15_setDevice 13 = .ok (.iconst 0, 1) := by decide +kernel
theorem dX15_setDevice_14 : decode cX15_setDevice 14 = .ok (.ireturn, 1) := by decide +kernel
set_option maxRecDepth 20000 in
theorem ggX15_setPanels_X15_isIn : GoodIn wsX15_setPanels wsX15_isIn := goodIn_r _ [6] (by decide +kernel) (by decide +kernel)
set_option maxRecDepth 20000 in
theorem gX15_setPanels_X15_isIn : GoodIn wsX15_setPanels (va_wsS RX15 30 yX15_isIn wsX15_isIn) := goodIn_app (goodIn_of _ (by decide +kernel)) ggX15_setPanels_X15_isIn
set_option maxRecDepth 20000 in
theorem ggX15_setPanels_X15_no : GoodIn wsX15_setPanels wsX15_no := goodIn_r _ [10, 11, 12, 13] (by decide +kernel) (by decide +kernel)
set_option maxRecDepth 20000 in
theorem gX15_setPanels_X15_no : GoodIn wsX15_setPanels (wsV RX15 43 RX15 yX15_no wsX15_no) := goodIn_app (goodIn_of _ (by decide +kernel)) ggX15_setPanels_X15_no
theorem dX15_setPanels_0 : decode cX15_setPanels 0 = .ok (.aload_n 0, 1) := by decide +kernel
theorem dX15_setPanels_1 : decode cX15_setPanels 1 = .ok (.iload_n 1, 1) := by decide +kernel
theorem dX15_setPanels_2 : decode cX15_setPanels 2 = .ok (.iconst 0, 1) := by decide +kernel
theorem dX15_setPanels_3 : decode cX15_setPanels 3 = .ok (.bipush 40, 2) := by decide +kernel
theorem dX15_setPanels_5 : decode cX15_setPanels 5 = .ok (.invokestatic 30, 3) := by decide +kernel
theorem dX15_setPanels_8 : decode cX15_setPanels 8 = .ok (.iconst 1, 1) := by decide +kernel
theorem dX15_setPanels_9 : decode cX15_setPanels 9 = .ok (.invokevirtual 43, 3) := by decide +kernel
theorem dX15_setPanels_12 : decode cX15_setPanels 12 = .ok (.ifCond .eq 5, 3) := by decide +kernel
theorem dX15_setPanels_15 : decode cX15_setPanels 15 = .ok (.iconst 0, 1) := by decide +kernel
theorem dX15_setPanels_16 : decode cX15_setPanels 16 = .ok (.ireturn, 1) := by decide +kernel
theorem dX15_setPanels_17 : decode cX15_setPanels 17 = .ok (.aload_n 0, 1) := by decide +kernel
theorem dX15_setPanels_18 : decode cX15_setPanels 18 = .ok (.getfield 10, 3) := by decide +kernel
theorem dX15_setPanels_21 : decode cX15_setPanels 21 = .ok (.getfield 108, 3) := by decide +kernel
theorem dX15_setPanels_24 : decode cX15_setPanels 24 = .ok (.istore_n 2, 1) := by decide +kernel
theorem dX15_setPanels_25 : decode cX15_setPanels 25 = .ok (.aload_n 0, 1) := by decide +kernel
theorem dX15_setPanels_26 : decode cX15_setPanels 26 = .ok (.getfield 10, 3) := by decide +kernel
theorem dX15_setPanels_29 : decode cX15_setPanels 29 = .ok (.iload_n 1, 1) := by decide +kernel
theorem dX15_setPanels_30 : decode cX15_setPanels 30 = .ok (.putfield 108, 3) := by decide +kernel
theorem dX15_setPanels_33 : decode cX15_setPanels 33 = .ok (.iload_n 2, 1) := by decide +kernel
theorem dX15_setPanels_34 : decode cX15_setPanels 34 = .ok (.ireturn, 1) := by decide +kernel
set_option maxRecDepth 20000 in
theorem ggX15_board_X15_isRoom : GoodIn wsX15_board wsX15_isRoom := goodIn_r _ [10, 1, 11, 12, 13, 14, 15, 16, 17, 18, 19, 9, 20, 89, 90, 91, 92, 93, 94, 95, 96, 97, 98, 99, 100, 101, 102, 103, 104, 108, 109, 110] (by decide +kernel) (by decide +kernel)
set_option maxRecDepth 20000 in
theorem gX15_board_X15_isRoom : GoodIn wsX15_board (wsV RX15 63 RX15 yX15_isRoom wsX15_isRoom) := goodIn_app (goodIn_of _ (by decide +kernel)) ggX15_board_X15_isRoom
set_option maxRecDepth 20000 in
theorem ggX15_board_X15_no : GoodIn wsX15_board wsX15_no := goodIn_r _ [24, 25, 89, 90] (by decide +kernel) (by decide +kernel)
set_option maxRecDepth 20000 in
theorem gX15_board_X15_no : GoodIn wsX15_board (wsV RX15 43 RX15 yX15_no wsX15_no) := goodIn_app (goodIn_of _ (by decide +kernel)) ggX15_board_X15_no
theorem dX15_board_0 : decode cX15_board 0 = .ok (.aload_n 0, 1) := by decide +kernel
theorem dX15_board_1 : decode cX15_board 1 = .ok (.aload_n 0, 1) := by decide +kernel
theorem dX15_board_2 : decode cX15_board 2 = .ok (.iload_n 1, 1) := by decide +kernel
theorem dX15_board_3 : decode cX15_board 3 = .ok (.invokevirtual 63, 3) := by decide +kernel
theorem dX15_board_6 : decode cX15_board 6 = .ok (.iconst 1, 1) := by decide +kernel
theorem dX15_board_7 : decode cX15_board 7 = .ok (.invokevirtual 43, 3) := by decide +kernel
theorem dX15_board_10 : decode cX15_board 10 = .ok (.ifCond .ne 33, 3) := by decide +kernel
theorem dX15_board_43 : decode cX15_board 43 = .ok (.iconst 0, 1) := by decide +kernel
theorem dX15_board_44 : decode cX15_board 44 = .ok (.ireturn, 1) := by decide +kernel
set_option maxRecDepth 20000 in
theorem ggX15_move_Jx4a65c_size_8abf5 : GoodIn wsX15_move wsJx4a65c_size_8abf5 := goodIn_r _ [14, 15, 101, 102, 103] (by decide +kernel) (by decide +kernel)
set_option maxRecDepth 20000 in
theorem gX15_move_Jx4a65c_size_8abf5_f24Jx4a65c : GoodIn wsX15_move (va_wsF RX15 24 RJx4a65c ⟨"java/util/List", "size", "()I"⟩ yJx4a65c_size_8abf5 wsJx4a65c_size_8abf5) := goodIn_app (goodIn_of _ (by decide +kernel)) ggX15_move_Jx4a65c_size_8abf5
set_option maxRecDepth 20000 in
theorem ggX15_move_X15_isIn : GoodIn wsX15_move wsX15_isIn := goodIn_r _ [19] (by decide +kernel) (by decide +kernel)
set_option maxRecDepth 20000 in
theorem gX15_move_X15_isIn : GoodIn wsX15_move (va_wsS RX15 30 yX15_isIn wsX15_isIn) := goodIn_app (goodIn_of _ (by decide +kernel)) ggX15_move_X15_isIn
set_option maxRecDepth 20000 in
theorem ggX15_move_X15_no : GoodIn wsX15_move wsX15_no := goodIn_r _ [28, 29, 79, 80] (by decide +kernel) (by decide +kernel)
set_option maxRecDepth 20000 in
theorem gX15_move_X15_no : GoodIn wsX15_move (wsV RX15 43 RX15 yX15_no wsX15_no) := goodIn_app (goodIn_of _ (by decide +kernel)) ggX15_move_X15_no
theorem dX15_move_0 : decode cX15_move 0 = .ok (.aload_n 0, 1) := by decide +kernel
theorem dX15_move_1 : decode cX15_move 1 = .ok (.iload_n 1, 1) := by decide +kernel
theorem dX15_move_2 : decode cX15_move 2 = .ok (.iconst 0, 1) := by decide +kernel
theorem dX15_move_3 : decode cX15_move 3 = .ok (.aload_n 0, 1) := by decide +kernel
theorem dX15_move_4 : decode cX15_move 4 = .ok (.getfield 10, 3) := by decide +kernel
theorem dX15_move_7 : decode cX15_move 7 = .ok (.getfield 40, 3) := by decide +kernel
theorem dX15_move_10 : decode cX15_move 10 = .ok (.invokeinterface 24 1, 5) := by decide +kernel
theorem dX15_move_15 : decode cX15_move 15 = .ok (.iconst 1, 1) := by decide +kernel
theorem dX15_move_16 : decode cX15_move 16 = .ok (.isub, 1) := by decide +kernel
theorem dX15_move_17 : decode cX15_move 17 = .ok (.invokestatic 30, 3) := by decide +kernel
theorem dX15_move_20 : decode cX15_move 20 = .ok (.ifCond .eq 15, 3) := by decide +kernel
theorem dX15_move_35 : decode cX15_move 35 = .ok (.iconst 0, 1) := by decide +kernel
theorem dX15_move_36 : decode cX15_move 36 = .ok (.iconst 1, 1) := by decide +kernel
theorem dX15_move_37 : decode cX15_move 37 = .ok (.invokevirtual 43, 3) := by decide +kernel
theorem dX15_move_40 : decode cX15_move 40 = .ok (.ifCond .eq 5, 3) := by decide +kernel
theorem dX15_move_43 : decode cX15_move 43 = .ok (.iconst 0, 1) := by decide +kernel
theorem dX15_move_44 : decode cX15_move 44 = .ok (.ireturn, 1) := by decide +kernel
set_option maxRecDepth 20000 in
theorem ggX15_setTask_X15_noPerson : GoodIn wsX15_setTask wsX15_noPerson := goodIn_r _ [11, 1, 2, 12, 13, 14, 15, 16, 17, 18, 19, 10, 20, 21, 22, 23, 24, 25, 43, 44, 45, 46, 47, 48, 49, 50, 51, 52, 53, 54, 55, 56, 57, 58, 62, 63, 64] (by decide +kernel) (by decide +kernel)
set_option maxRecDepth 20000 in
theorem gX15_setTask_X15_noPerson : GoodIn wsX15_setTask (wsV RX15 139 RX15 yX15_noPerson wsX15_noPerson) := goodIn_app (goodIn_of _ (by decide +kernel)) ggX15_setTask_X15_noPerson
theorem dX15_setTask_0 : decode cX15_setTask 0 = .ok (.aload_n 0, 1) := by decide +kernel
theorem dX15_setTask_1 : decode cX15_setTask 1 = .ok (.iload_n 1, 1) := by decide +kernel
theorem dX15_setTask_2 : decode cX15_setTask 2 = .ok (.invokevirtual 139, 3) := by decide +kernel
theorem dX15_setTask_5 : decode cX15_setTask 5 = .ok (.ifCond .ne 34, 3) := by decide +kernel
theorem dX15_setTask_39 : decode cX15_setTask 39 = .ok (.bipush 114, 2) := by decide +kernel
theorem dX15_setTask_41 : decode cX15_setTask 41 = .ok (.ireturn, 1) := by decide +kernel
set_option maxRecDepth 20000 in
theorem ggX15_send_X15_isIn : GoodIn wsX15_send wsX15_isIn := goodIn_r _ [11] (by decide +kernel) (by decide +kernel)
set_option maxRecDepth 20000 in
theorem gX15_send_X15_isIn : GoodIn wsX15_send (va_wsS RX15 30 yX15_isIn wsX15_isIn) := goodIn_app (goodIn_of _ (by decide +kernel)) ggX15_send_X15_isIn
set_option maxRecDepth 20000 in
theorem ggX15_send_X15_no : GoodIn wsX15_send wsX15_no := goodIn_r _ [15, 16, 97, 98] (by decide +kernel) (by decide +kernel)
set_option maxRecDepth 20000 in
theorem gX15_send_X15_no : GoodIn wsX15_send (wsV RX15 43 RX15 yX15_no wsX15_no) := goodIn_app (goodIn_of _ (by decide +kernel)) ggX15_send_X15_no
set_option maxRecDepth 20000 in
theorem ggX15_send_X15_isDevice : GoodIn wsX15_send wsX15_isDevice := goodIn_r _ [20, 1, 21, 22, 23, 24, 25, 26, 27, 8, 9, 10, 11, 97, 98, 99, 100, 101, 102, 103, 104, 105, 106, 107, 108, 109, 110, 111, 112, 117, 118, 119] (by decide +kernel) (by decide +kernel)
set_option maxRecDepth 20000 in
theorem gX15_send_X15_isDevice : GoodIn wsX15_send (wsV RX15 95 RX15 yX15_isDevice wsX15_isDevice) := goodIn_app (goodIn_of _ (by decide +kernel)) ggX15_send_X15_isDevice
set_option maxRecDepth 20000 in
theorem ggX15_send_X15_isHatch : GoodIn wsX15_send wsX15_isHatch := goodIn_r _ [31, 1, 32, 22, 23, 24, 25, 26, 27, 8, 9, 10, 11, 97, 98, 99, 100, 101, 102, 103, 104, 105, 106, 107, 108, 109, 110, 111, 112, 117, 118, 119] (by decide +kernel) (by decide +kernel)
set_option maxRecDepth 20000 in
theorem gX15_send_X15_isHatch : GoodIn wsX15_send (wsV RX15 72 RX15 yX15_isHatch wsX15_isHatch) := goodIn_app (goodIn_of _ (by decide +kernel)) ggX15_send_X15_isHatch
theorem dX15_send_0 : decode cX15_send 0 = .ok (.iload_n 1, 1) := by decide +kernel
theorem dX15_send_1 : decode cX15_send 1 = .ok (.bipush 110, 2) := by decide +kernel
theorem dX15_send_3 : decode cX15_send 3 = .ok (.if_icmp .eq 21, 3) := by decide +kernel
theorem dX15_send_6 : decode cX15_send 6 = .ok (.iload_n 1, 1) := by decide +kernel
theorem dX15_send_7 : decode cX15_send 7 = .ok (.bipush 102, 2) := by decide +kernel
theorem dX15_send_9 : decode cX15_send 9 = .ok (.if_icmp .eq 15, 3) := by decide +kernel
theorem dX15_send_12 : decode cX15_send 12 = .ok (.iload_n 1, 1) := by decide +kernel
theorem dX15_send_13 : decode cX15_send 13 = .ok (.bipush 111, 2) := by decide +kernel
theorem dX15_send_15 : decode cX15_send 15 = .ok (.if_icmp .eq 9, 3) := by decide +kernel
theorem dX15_send_18 : decode cX15_send 18 = .ok (.iload_n 1, 1) := by decide +kernel
theorem dX15_send_19 : decode cX15_send 19 = .ok (.bipush 104, 2) := by decide +kernel
theorem dX15_send_21 : decode cX15_send 21 = .ok (.if_icmp .ne 28, 3) := by decide +kernel
theorem dX15_send_24 : decode cX15_send 24 = .ok (.iload_n 3, 1) := by decide +kernel
theorem dX15_send_25 : decode cX15_send 25 = .ok (.iconst 1, 1) := by decide +kernel
theorem dX15_send_26 : decode cX15_send 26 = .ok (.bipush 99, 2) := by decide +kernel
theorem dX15_send_28 : decode cX15_send 28 = .ok (.invokestatic 30, 3) := by decide +kernel
theorem dX15_send_31 : decode cX15_send 31 = .ok (.ifCond .eq 18, 3) := by decide +kernel
theorem dX15_send_34 : decode cX15_send 34 = .ok (.iload 4, 2) := by decide +kernel
theorem dX15_send_36 : decode cX15_send 36 = .ok (.iconst 0, 1) := by decide +kernel
theorem dX15_send_37 : decode cX15_send 37 = .ok (.bipush 99, 2) := by decide +kernel
theorem dX15_send_39 : decode cX15_send 39 = .ok (.invokestatic 30, 3) := by decide +kernel
theorem dX15_send_42 : decode cX15_send 42 = .ok (.ifCond .eq 7, 3) := by decide +kernel
theorem dX15_send_45 : decode cX15_send 45 = .ok (.iconst 1, 1) := by decide +kernel
theorem dX15_send_46 : decode cX15_send 46 = .ok (.goto 4, 3) := by decide +kernel
theorem dX15_send_49 : decode cX15_send 49 = .ok (.iconst 0, 1) := by decide +kernel
theorem dX15_send_50 : decode cX15_send 50 = .ok (.istore 5, 2) := by decide +kernel
theorem dX15_send_52 : decode cX15_send 52 = .ok (.aload_n 0, 1) := by decide +kernel
theorem dX15_send_53 : decode cX15_send 53 = .ok (.iload 5, 2) := by decide +kernel
theorem dX15_send_55 : decode cX15_send 55 = .ok (.iconst 1, 1) := by decide +kernel
theorem dX15_send_56 : decode cX15_send 56 = .ok (.invokevirtual 43, 3) := by decide +kernel
theorem dX15_send_59 : decode cX15_send 59 = .ok (.ifCond .ne 36, 3) := by decide +kernel
theorem dX15_send_62 : decode cX15_send 62 = .ok (.aload_n 0, 1) := by decide +kernel
theorem dX15_send_63 : decode cX15_send 63 = .ok (.iload_n 1, 1) := by decide +kernel
theorem dX15_send_64 : decode cX15_send 64 = .ok (.bipush 110, 2) := by decide +kernel
theorem dX15_send_66 : decode cX15_send 66 = .ok (.if_icmp .eq 9, 3) := by decide +kernel
theorem dX15_send_69 : decode cX15_send 69 = .ok (.iload_n 1, 1) := by decide +kernel
theorem dX15_send_70 : decode cX15_send 70 = .ok (.bipush 102, 2) := by decide +kernel
theorem dX15_send_72 : decode cX15_send 72 = .ok (.if_icmp .ne 11, 3) := by decide +kernel
theorem dX15_send_75 : decode cX15_send 75 = .ok (.aload_n 0, 1) := by decide +kernel
theorem dX15_send_76 : decode cX15_send 76 = .ok (.iload_n 2, 1) := by decide +kernel
theorem dX15_send_77 : decode cX15_send 77 = .ok (.invokevirtual 95, 3) := by decide +kernel
theorem dX15_send_80 : decode cX15_send 80 = .ok (.goto 8, 3) := by decide +kernel
theorem dX15_send_83 : decode cX15_send 83 = .ok (.aload_n 0, 1) := by decide +kernel
theorem dX15_send_84 : decode cX15_send 84 = .ok (.iload_n 2, 1) := by decide +kernel
theorem dX15_send_85 : decode cX15_send 85 = .ok (.invokevirtual 72, 3) := by decide +kernel
theorem dX15_send_88 : decode cX15_send 88 = .ok (.iconst 2, 1) := by decide +kernel
theorem dX15_send_89 : decode cX15_send 89 = .ok (.invokevirtual 43, 3) := by decide +kernel
theorem dX15_send_92 : decode cX15_send 92 = .ok (.ifCond .eq 5, 3) := by decide +kernel
theorem dX15_send_95 : decode cX15_send 95 = .ok (.iconst 0, 1) := by decide +kernel
theorem dX15_send_96 : decode cX15_send 96 = .ok (.ireturn, 1) := by decide +kernel
set_option maxRecDepth 20000 in
theorem ggX15_approach_X15_isIn : GoodIn wsX15_approach wsX15_isIn := goodIn_r _ [9] (by decide +kernel) (by decide +kernel)
set_option maxRecDepth 20000 in
theorem gX15_approach_X15_isIn : GoodIn wsX15_approach (va_wsS RX15 30 yX15_isIn wsX15_isIn) := goodIn_app (goodIn_of _ (by decide +kernel)) ggX15_approach_X15_isIn
set_option maxRecDepth 20000 in
theorem ggX15_approach_X15_no : GoodIn wsX15_approach wsX15_no := goodIn_r _ [13, 14, 85, 86] (by decide +kernel) (by decide +kernel)
set_option maxRecDepth 20000 in
theorem gX15_approach_X15_no : GoodIn wsX15_approach (wsV RX15 43 RX15 yX15_no wsX15_no) := goodIn_app (goodIn_of _ (by decide +kernel)) ggX15_approach_X15_no
set_option maxRecDepth 20000 in
theorem ggX15_approach_Jx4a65c_size_8abf5 : GoodIn wsX15_approach wsJx4a65c_size_8abf5 := goodIn_r _ [19, 20, 105, 106, 107] (by decide +kernel) (by decide +kernel)
set_option maxRecDepth 20000 in
theorem gX15_approach_Jx4a65c_size_8abf5_f24Jx4a65c : GoodIn wsX15_approach (va_wsF RX15 24 RJx4a65c ⟨"java/util/List", "size", "()I"⟩ yJx4a65c_size_8abf5 wsJx4a65c_size_8abf5) := goodIn_app (goodIn_of _ (by decide +kernel)) ggX15_approach_Jx4a65c_size_8abf5
set_option maxRecDepth 20000 in
theorem ggX15_approach_X13_init : GoodIn wsX15_approach wsX13_init := goodIn_r _ [23, 24, 25, 26, 27, 28, 29, 30, 101, 102, 103, 104] (by decide +kernel) (by decide +kernel)
set_option maxRecDepth 20000 in
theorem gX15_approach_X13_init : GoodIn wsX15_approach (wsX13_init) := ggX15_approach_X13_init
set_option maxRecDepth 20000 in
theorem ggX15_approach_Jx4a65c_add_9ea2d : GoodIn wsX15_approach wsJx4a65c_add_9ea2d := goodIn_r _ [34, 35, 36, 37, 20, 38, 39, 40, 18, 41, 42, 43, 44, 45, 46, 47, 48, 49, 50, 51, 52, 53, 54, 55, 56, 57, 58, 59, 60, 61, 62, 63, 64, 65, 66, 67, 68, 69, 70, 71, 72, 73, 74, 75, 76, 77, 78, 79, 80, 81, 82, 83, 84, 105, 106, 107] (by decide +kernel) (by decide +kernel)
set_option maxRecDepth 20000 in
theorem gX15_approach_Jx4a65c_add_9ea2d_f53Jx4a65c : GoodIn wsX15_approach (va_wsF RX15 53 RJx4a65c ⟨"java/util/List", "add", "(Ljava/lang/Object;)Z"⟩ yJx4a65c_add_9ea2d wsJx4a65c_add_9ea2d) := goodIn_app (goodIn_of _ (by decide +kernel)) ggX15_approach_Jx4a65c_add_9ea2d
theorem dX15_approach_0 : decode cX15_approach 0 = .ok (.aload_n 0, 1) := by decide +kernel
theorem dX15_approach_1 : decode cX15_approach 1 = .ok (.iload_n 1, 1) := by decide +kernel
theorem dX15_approach_2 : decode cX15_approach 2 = .ok (.iconst 1, 1) := by decide +kernel
theorem dX15_approach_3 : decode cX15_approach 3 = .ok (.sipush 500, 3) := by decide +kernel
theorem dX15_approach_6 : decode cX15_approach 6 = .ok (.invokestatic 30, 3) := by decide +kernel
theorem dX15_approach_9 : decode cX15_approach 9 = .ok (.ifCond .eq 17, 3) := by decide +kernel
theorem dX15_approach_12 : decode cX15_approach 12 = .ok (.iload_n 2, 1) := by decide +kernel
theorem dX15_approach_13 : decode cX15_approach 13 = .ok (.iconst 0, 1) := by decide +kernel
theorem dX15_approach_14 : decode cX15_approach 14 = .ok (.bipush 99, 2) := by decide +kernel
theorem dX15_approach_16 : decode cX15_approach 16 = .ok (.invokestatic 30, 3) := by decide +kernel
theorem dX15_approach_19 : decode cX15_approach 19 = .ok (.ifCond .eq 7, 3) := by decide +kernel
theorem dX15_approach_22 : decode cX15_approach 22 = .ok (.iconst 1, 1) := by decide +kernel
theorem dX15_approach_23 : decode cX15_approach 23 = .ok (.goto 4, 3) := by decide +kernel
theorem dX15_approach_26 : decode cX15_approach 26 = .ok (.iconst 0, 1) := by decide +kernel
theorem dX15_approach_27 : decode cX15_approach 27 = .ok (.iconst 1, 1) := by decide +kernel
theorem dX15_approach_28 : decode cX15_approach 28 = .ok (.invokevirtual 43, 3) := by decide +kernel
theorem dX15_approach_31 : decode cX15_approach 31 = .ok (.ifCond .ne 32, 3) := by decide +kernel
theorem dX15_approach_34 : decode cX15_approach 34 = .ok (.aload_n 0, 1) := by decide +kernel
theorem dX15_approach_35 : decode cX15_approach 35 = .ok (.aload_n 0, 1) := by decide +kernel
theorem dX15_approach_36 : decode cX15_approach 36 = .ok (.getfield 10, 3) := by decide +kernel
theorem dX15_approach_39 : decode cX15_approach 39 = .ok (.getfield 156, 3) := by decide +kernel
theorem dX15_approach_42 : decode cX15_approach 42 = .ok (.invokeinterface 24 1, 5) := by decide +kernel
theorem dX15_approach_47 : decode cX15_approach 47 = .ok (.iconst 4, 1) := by decide +kernel
theorem dX15_approach_48 : decode cX15_approach 48 = .ok (.if_icmp .ge 7, 3) := by decide +kernel
theorem dX15_approach_51 : decode cX15_approach 51 = .ok (.iconst 1, 1) := by decide +kernel
theorem dX15_approach_52 : decode cX15_approach 52 = .ok (.goto 4, 3) := by decide +kernel
theorem dX15_approach_56 : decode cX15_approach 56 = .ok (.iconst 2, 1) := by decide +kernel
theorem dX15_approach_57 : decode cX15_approach 57 = .ok (.invokevirtual 43, 3) := by decide +kernel
theorem dX15_approach_60 : decode cX15_approach 60 = .ok (.ifCond .eq 5, 3) := by decide +kernel
theorem dX15_approach_63 : decode cX15_approach 63 = .ok (.iconst 0, 1) := by decide +kernel
theorem dX15_approach_64 : decode cX15_approach 64 = .ok (.ireturn, 1) := by decide +kernel
theorem dX15_approach_65 : decode cX15_approach 65 = .ok (.aload_n 0, 1) := by decide +kernel
theorem dX15_approach_66 : decode cX15_approach 66 = .ok (.getfield 10, 3) := by decide +kernel
theorem dX15_approach_69 : decode cX15_approach 69 = .ok (.getfield 156, 3) := by decide +kernel
theorem dX15_approach_72 : decode cX15_approach 72 = .ok (.new 159, 3) := by decide +kernel
theorem dX15_approach_75 : decode cX15_approach 75 = .ok (.dup, 1) := by decide +kernel
theorem dX15_approach_76 : decode cX15_approach 76 = .ok (.iload_n 1, 1) := by decide +kernel
theorem dX15_approach_77 : decode cX15_approach 77 = .ok (.iload_n 2, 1) := by decide +kernel
theorem dX15_approach_78 : decode cX15_approach 78 = .ok (.invokespecial 161, 3) := by decide +kernel
theorem dX15_approach_81 : decode cX15_approach 81 = .ok (.invokeinterface 53 2, 5) := by decide +kernel
theorem dX15_approach_86 : decode cX15_approach 86 = .ok (.pop, 1) := by decide +kernel
theorem dX15_approach_87 : decode cX15_approach 87 = .ok (.aload_n 0, 1) := by decide +kernel
theorem dX15_approach_88 : decode cX15_approach 88 = .ok (.getfield 10, 3) := by decide +kernel
theorem dX15_approach_91 : decode cX15_approach 91 = .ok (.getfield 156, 3) := by decide +kernel
theorem dX15_approach_94 : decode cX15_approach 94 = .ok (.invokeinterface 24 1, 5) := by decide +kernel
theorem dX15_approach_99 : decode cX15_approach 99 = .ok (.iconst 1, 1) := by decide +kernel
theorem dX15_approach_100 : decode cX15_approach 100 = .ok (.isub, 1) := by decide +kernel
theorem dX15_approach_101 : decode cX15_approach 101 = .ok (.ireturn, 1) := by decide +kernel
set_option maxRecDepth 20000 in
theorem ggX15_noShip_Jx4a65c_size_8abf5 : GoodIn wsX15_noShip wsJx4a65c_size_8abf5 := goodIn_r _ [7, 8, 34, 35, 36] (by decide +kernel) (by decide +kernel)
set_option maxRecDepth 20000 in
theorem gX15_noShip_Jx4a65c_size_8abf5_f24Jx4a65c : GoodIn wsX15_noShip (va_wsF RX15 24 RJx4a65c ⟨"java/util/List", "size", "()I"⟩ yJx4a65c_size_8abf5 wsJx4a65c_size_8abf5) := goodIn_app (goodIn_of _ (by decide +kernel)) ggX15_noShip_Jx4a65c_size_8abf5
set_option maxRecDepth 20000 in
theorem ggX15_noShip_X15_isIn : GoodIn wsX15_noShip wsX15_isIn := goodIn_r _ [12] (by decide +kernel) (by decide +kernel)
set_option maxRecDepth 20000 in
theorem gX15_noShip_X15_isIn : GoodIn wsX15_noShip (va_wsS RX15 30 yX15_isIn wsX15_isIn) := goodIn_app (goodIn_of _ (by decide +kernel)) ggX15_noShip_X15_isIn
set_option maxRecDepth 20000 in
theorem ggX15_noShip_X15_no : GoodIn wsX15_noShip wsX15_no := goodIn_r _ [16, 17, 18, 19] (by decide +kernel) (by decide +kernel)
set_option maxRecDepth 20000 in
theorem gX15_noShip_X15_no : GoodIn wsX15_noShip (wsV RX15 43 RX15 yX15_no wsX15_no) := goodIn_app (goodIn_of _ (by decide +kernel)) ggX15_noShip_X15_no
theorem dX15_noShip_0 : decode cX15_noShip 0 = .ok (.aload_n 0, 1) := by decide +kernel
theorem dX15_noShip_1 : decode cX15_noShip 1 = .ok (.iload_n 1, 1) := by decide +kernel
theorem dX15_noShip_2 : decode cX15_noShip 2 = .ok (.iconst 0, 1) := by decide +kernel
theorem dX15_noShip_3 : decode cX15_noShip 3 = .ok (.aload_n 0, 1) := by decide +kernel
theorem dX15_noShip_4 : decode cX15_noShip 4 = .ok (.getfield 10, 3) := by decide +kernel
theorem dX15_noShip_7 : decode cX15_noShip 7 = .ok (.getfield 156, 3) := by decide +kernel
theorem dX15_noShip_10 : decode cX15_noShip 10 = .ok (.invokeinterface 24 1, 5) := by decide +kernel
theorem dX15_noShip_15 : decode cX15_noShip 15 = .ok (.iconst 1, 1) := by decide +kernel
theorem dX15_noShip_16 : decode cX15_noShip 16 = .ok (.isub, 1) := by decide +kernel
theorem dX15_noShip_17 : decode cX15_noShip 17 = .ok (.invokestatic 30, 3) := by decide +kernel
theorem dX15_noShip_20 : decode cX15_noShip 20 = .ok (.iconst 1, 1) := by decide +kernel
theorem dX15_noShip_21 : decode cX15_noShip 21 = .ok (.invokevirtual 43, 3) := by decide +kernel
theorem dX15_noShip_24 : decode cX15_noShip 24 = .ok (.ireturn, 1) := by decide +kernel
set_option maxRecDepth 20000 in
theorem ggX15_burn_X15_noShip : GoodIn wsX15_burn wsX15_noShip := goodIn_r _ [15, 1, 2, 16, 17, 18, 19, 20, 21, 22, 23, 14, 24, 25, 26, 27, 28, 29, 47, 48, 49, 50, 51, 52, 53, 54, 55, 56, 57, 58, 59, 60, 61, 62, 67, 68, 69] (by decide +kernel) (by decide +kernel)
set_option maxRecDepth 20000 in
theorem gX15_burn_X15_noShip : GoodIn wsX15_burn (wsV RX15 162 RX15 yX15_noShip wsX15_noShip) := goodIn_app (goodIn_of _ (by decide +kernel)) ggX15_burn_X15_noShip
theorem dX15_burn_0 : decode cX15_burn 0 = .ok (.aload_n 0, 1) := by decide +kernel
theorem dX15_burn_1 : decode cX15_burn 1 = .ok (.iload_n 1, 1) := by decide +kernel
theorem dX15_burn_2 : decode cX15_burn 2 = .ok (.invokevirtual 162, 3) := by decide +kernel
theorem dX15_burn_5 : decode cX15_burn 5 = .ok (.ifCond .ne 19, 3) := by decide +kernel
theorem dX15_burn_24 : decode cX15_burn 24 = .ok (.iconst 0, 1) := by decide +kernel
theorem dX15_burn_25 : decode cX15_burn 25 = .ok (.ireturn, 1) := by decide +kernel
set_option maxRecDepth 20000 in
theorem ggX15_pass_X15_isIn : GoodIn wsX15_pass wsX15_isIn := goodIn_r _ [6] (by decide +kernel) (by decide +kernel)
set_option maxRecDepth 20000 in
theorem gX15_pass_X15_isIn : GoodIn wsX15_pass (va_wsS RX15 30 yX15_isIn wsX15_isIn) := goodIn_app (goodIn_of _ (by decide +kernel)) ggX15_pass_X15_isIn
set_option maxRecDepth 20000 in
theorem ggX15_pass_X15_no : GoodIn wsX15_pass wsX15_no := goodIn_r _ [10, 11, 254, 255] (by decide +kernel) (by decide +kernel)
set_option maxRecDepth 20000 in
theorem gX15_pass_X15_no : GoodIn wsX15_pass (wsV RX15 43 RX15 yX15_no wsX15_no) := goodIn_app (goodIn_of _ (by decide +kernel)) ggX15_pass_X15_no
set_option maxRecDepth 20000 in
theorem ggX15_pass_X14_passes_k0 : GoodIn wsX15_pass [.code yX14_passes cX14_passes 3 none] := goodIn_r _ [16] (by decide +kernel) (by decide +kernel)
set_option maxRecDepth 20000 in
theorem ggX15_pass_X14_passes_k1 : GoodIn wsX15_pass wsX14_passes_r1 := goodIn_r _ [17, 18, 19, 20, 21, 22, 23, 24, 25, 26, 27, 28, 29, 30, 31, 32, 33, 34, 35, 15, 36, 37, 38, 39] (by decide +kernel) (by decide +kernel)
set_option maxRecDepth 20000 in
theorem ggX15_pass_X14_passes_k2 : GoodIn wsX15_pass wsX14_passes_r2 := goodIn_r _ [40, 41, 42, 43, 44, 45, 46, 47, 48, 49, 50, 51, 52, 53, 54, 55, 56, 57, 58, 59, 60, 61, 62, 63] (by decide +kernel) (by decide +kernel)
set_option maxRecDepth 20000 in
theorem ggX15_pass_X14_passes_k3 : GoodIn wsX15_pass wsX14_passes_r3 := goodIn_r _ [64, 65, 66, 67, 68, 69, 70, 71, 72, 73, 74, 75, 76, 77, 78, 79, 80, 81, 82, 83, 84, 85, 86, 87] (by decide +kernel) (by decide +kernel)
set_option maxRecDepth 20000 in
theorem ggX15_pass_X14_passes_k4 : GoodIn wsX15_pass wsX14_passes_r4 := goodIn_r _ [88, 89, 90, 91, 92, 93, 94, 95, 96, 97, 98, 99, 100, 101, 102, 103, 104, 105, 106, 107, 108, 109, 110, 111] (by decide +kernel) (by decide +kernel)
set_option maxRecDepth 20000 in
theorem ggX15_pass_X14_passes_k5 : GoodIn wsX15_pass wsX14_passes_r5 := goodIn_r _ [112, 113, 114, 115, 116, 117, 118, 119, 120, 121, 122, 123, 124, 125, 126, 127, 128, 129, 130, 131, 132, 133, 134, 135] (by decide +kernel) (by decide +kernel)
set_option maxRecDepth 20000 in
theorem ggX15_pass_X14_passes_k6 : GoodIn wsX15_pass wsX14_passes_r6 := goodIn_r _ [136, 137, 138, 139, 140, 141, 142, 143, 144, 145, 146, 147, 148, 149, 150, 151, 152, 153, 154, 155, 156, 157, 158, 159] (by decide +kernel) (by decide +kernel)
set_option maxRecDepth 20000 in
theorem ggX15_pass_X14_passes_k7 : GoodIn wsX15_pass wsX14_passes_r7 := goodIn_r _ [160, 161, 162, 163, 164, 165, 166, 167, 168, 169, 170, 171, 172, 173, 174, 175, 176, 177, 178, 179, 180, 181, 182, 183] (by decide +kernel) (by decide +kernel)
set_option maxRecDepth 20000 in
theorem ggX15_pass_X14_passes_k8 : GoodIn wsX15_pass wsX14_passes_r8 := goodIn_r _ [184, 185, 186, 187, 188, 189, 190, 191, 192, 193, 194, 195, 196, 197, 198, 199, 200, 201, 202, 203, 204, 205, 206, 207] (by decide +kernel) (by decide +kernel)
set_option maxRecDepth 20000 in
theorem ggX15_pass_X14_passes_k9 : GoodIn wsX15_pass wsX14_passes_r9 := goodIn_r _ [208, 209, 210, 211, 212, 213, 214, 215, 216, 217, 218, 219, 220, 221, 222, 223, 224, 225, 226, 227, 228, 229, 230, 231] (by decide +kernel) (by decide +kernel)
set_option maxRecDepth 20000 in
theorem ggX15_pass_X14_passes_k10 : GoodIn wsX15_pass wsX14_passes_r10 := goodIn_r _ [232, 233, 234, 235, 236, 237, 238, 239, 240, 241, 242, 243, 244, 245, 246, 247, 248, 249, 250, 251, 252, 253] (by decide +kernel) (by decide +kernel)
set_option maxRecDepth 20000 in
theorem ggX15_pass_X14_passes_k11 : GoodIn wsX15_pass wsX140 := goodIn_r _ [256, 257, 258, 259, 260, 261, 262, 263, 264, 265, 266, 267, 268, 269] (by decide +kernel) (by decide +kernel)
set_option maxRecDepth 20000 in
theorem ggX15_pass_X14_passes_k12 : GoodIn wsX15_pass wsX110 := goodIn_r _ [270, 271, 272] (by decide +kernel) (by decide +kernel)
set_option maxRecDepth 20000 in
theorem ggX15_pass_X14_passes_k13 : GoodIn wsX15_pass wsX120 := goodIn_r _ [273, 274, 275] (by decide +kernel) (by decide +kernel)
set_option maxRecDepth 20000 in
theorem ggX15_pass_X14_passes_k14 : GoodIn wsX15_pass wsX90 := goodIn_r _ [276, 277, 278, 279] (by decide +kernel) (by decide +kernel)
set_option maxRecDepth 20000 in
theorem ggX15_pass_X14_passes_k15 : GoodIn wsX15_pass wsJx4a65c0 := goodIn_r _ [280, 281, 282] (by decide +kernel) (by decide +kernel)
set_option maxRecDepth 20000 in
theorem ggX15_pass_X14_passes_k16 : GoodIn wsX15_pass wsJ110 := goodIn_r _ [283] (by decide +kernel) (by decide +kernel)
set_option maxRecDepth 20000 in
theorem ggX15_pass_X14_passes_k17 : GoodIn wsX15_pass wsX100 := goodIn_r _ [284, 285, 286, 287] (by decide +kernel) (by decide +kernel)
set_option maxRecDepth 20000 in
theorem ggX15_pass_X14_passes_k18 : GoodIn wsX15_pass wsX130 := goodIn_r _ [288, 289, 290, 291] (by decide +kernel) (by decide +kernel)
set_option maxRecDepth 20000 in
theorem ggX15_pass_X14_passes_k19 : GoodIn wsX15_pass wsJx354110 := goodIn_r _ [292, 293, 294, 295] (by decide +kernel) (by decide +kernel)
set_option maxRecDepth 20000 in
theorem ggX15_pass_X14_passes_k20 : GoodIn wsX15_pass wsJ60 := goodIn_r _ [296] (by decide +kernel) (by decide +kernel)
set_option maxRecDepth 20000 in
theorem ggX15_pass_X14_passes : GoodIn wsX15_pass wsX14_passes := goodIn_cons1 ggX15_pass_X14_passes_k0 (goodIn_app (goodIn_app (goodIn_app (goodIn_app (goodIn_app (goodIn_app (goodIn_app (goodIn_app (goodIn_app (goodIn_app (goodIn_app ggX15_pass_X14_passes_k1 (goodIn_app ggX15_pass_X14_passes_k2 (goodIn_app ggX15_pass_X14_passes_k3 (goodIn_app ggX15_pass_X14_passes_k4 (goodIn_app ggX15_pass_X14_passes_k5 (goodIn_app ggX15_pass_X14_passes_k6 (goodIn_app ggX15_pass_X14_passes_k7 (goodIn_app ggX15_pass_X14_passes_k8 (goodIn_app ggX15_pass_X14_passes_k9 ggX15_pass_X14_passes_k10))))))))) ggX15_pass_X14_passes_k11) ggX15_pass_X14_passes_k12) ggX15_pass_X14_passes_k13) ggX15_pass_X14_passes_k14) ggX15_pass_X14_passes_k15) ggX15_pass_X14_passes_k16) ggX15_pass_X14_passes_k17) ggX15_pass_X14_passes_k18) ggX15_pass_X14_passes_k19) ggX15_pass_X14_passes_k20)
set_option maxRecDepth 20000 in
theorem gX15_pass_X14_passes : GoodIn wsX15_pass (wsV RX15 180 RX14 yX14_passes wsX14_passes) := goodIn_app (goodIn_of _ (by decide +kernel)) ggX15_pass_X14_passes
theorem dX15_pass_0 : decode cX15_pass 0 = .ok (.aload_n 0, 1) := by decide +kernel
theorem dX15_pass_1 : decode cX15_pass 1 = .ok (.iload_n 1, 1) := by decide +kernel
theorem dX15_pass_2 : decode cX15_pass 2 = .ok (.iconst 1, 1) := by decide +kernel
theorem dX15_pass_3 : decode cX15_pass 3 = .ok (.bipush 90, 2) := by decide +kernel
theorem dX15_pass_5 : decode cX15_pass 5 = .ok (.invokestatic 30, 3) := by decide +kernel
theorem dX15_pass_8 : decode cX15_pass 8 = .ok (.iconst 1, 1) := by decide +kernel
theorem dX15_pass_9 : decode cX15_pass 9 = .ok (.invokevirtual 43, 3) := by decide +kernel
theorem dX15_pass_12 : decode cX15_pass 12 = .ok (.ifCond .ne 31, 3) := by decide +kernel
theorem dX15_pass_15 : decode cX15_pass 15 = .ok (.aload_n 0, 1) := by decide +kernel
theorem dX15_pass_16 : decode cX15_pass 16 = .ok (.aload_n 0, 1) := by decide +kernel
theorem dX15_pass_17 : decode cX15_pass 17 = .ok (.getfield 10, 3) := by decide +kernel
theorem dX15_pass_20 : decode cX15_pass 20 = .ok (.getfield 150, 3) := by decide +kernel
theorem dX15_pass_23 : decode cX15_pass 23 = .ok (.iload_n 1, 1) := by decide +kernel
theorem dX15_pass_24 : decode cX15_pass 24 = .ok (.iadd, 1) := by decide +kernel
theorem dX15_pass_25 : decode cX15_pass 25 = .ok (.sipush 9999, 3) := by decide +kernel
theorem dX15_pass_28 : decode cX15_pass 28 = .ok (.if_icmp .gt 7, 3) := by decide +kernel
theorem dX15_pass_31 : decode cX15_pass 31 = .ok (.iconst 1, 1) := by decide +kernel
theorem dX15_pass_32 : decode cX15_pass 32 = .ok (.goto 4, 3) := by decide +kernel
theorem dX15_pass_36 : decode cX15_pass 36 = .ok (.iconst 2, 1) := by decide +kernel
theorem dX15_pass_37 : decode cX15_pass 37 = .ok (.invokevirtual 43, 3) := by decide +kernel
theorem dX15_pass_40 : decode cX15_pass 40 = .ok (.ifCond .eq 5, 3) := by decide +kernel
theorem dX15_pass_43 : decode cX15_pass 43 = .ok (.iconst 0, 1) := by decide +kernel
theorem dX15_pass_44 : decode cX15_pass 44 = .ok (.ireturn, 1) := by decide +kernel
theorem dX15_pass_45 : decode cX15_pass 45 = .ok (.iconst 0, 1) := by decide +kernel
theorem dX15_pass_46 : decode cX15_pass 46 = .ok (.istore_n 2, 1) := by decide +kernel
theorem dX15_pass_47 : decode cX15_pass 47 = .ok (.iload_n 2, 1) := by decide +kernel
theorem dX15_pass_48 : decode cX15_pass 48 = .ok (.iload_n 1, 1) := by decide +kernel
theorem dX15_pass_49 : decode cX15_pass 49 = .ok (.if_icmp .ge 16, 3) := by decide +kernel
theorem dX15_pass_52 : decode cX15_pass 52 = .ok (.aload_n 0, 1) := by decide +kernel
theorem dX15_pass_53 : decode cX15_pass 53 = .ok (.getfield 10, 3) := by decide +kernel
theorem dX15_pass_56 : decode cX15_pass 56 = .ok (.invokevirtual 180, 3) := by decide +kernel
theorem dX15_pass_59 : decode cX15_pass 59 = .ok (.iinc 2 1, 3) := by decide +kernel
theorem dX15_pass_62 : decode cX15_pass 62 = .ok (.goto (-15), 3) := by decide +kernel
theorem dX15_pass_65 : decode cX15_pass 65 = .ok (.aload_n 0, 1) := by decide +kernel
theorem dX15_pass_66 : decode cX15_pass 66 = .ok (.getfield 10, 3) := by decide +kernel
theorem dX15_pass_69 : decode cX15_pass 69 = .ok (.getfield 150, 3) := by decide +kernel
theorem dX15_pass_72 : decode cX15_pass 72 = .ok (.ireturn, 1) := by decide +kernel
theorem dX15_endSafe_0 : decode cX15_endSafe 0 = .ok (.aload_n 0, 1) := by decide +kernel
theorem dX15_endSafe_1 : decode cX15_endSafe 1 = .ok (.getfield 10, 3) := by decide +kernel
theorem dX15_endSafe_4 : decode cX15_endSafe 4 = .ok (.getfield 98, 3) := by decide +kernel
theorem dX15_endSafe_7 : decode cX15_endSafe 7 = .ok (.istore_n 1, 1) := by decide +kernel
theorem dX15_endSafe_8 : decode cX15_endSafe 8 = .ok (.aload_n 0, 1) := by decide +kernel
theorem dX15_endSafe_9 : decode cX15_endSafe 9 = .ok (.getfield 10, 3) := by decide +kernel
theorem dX15_endSafe_12 : decode cX15_endSafe 12 = .ok (.iconst 0, 1) := by decide +kernel
theorem dX15_endSafe_13 : decode cX15_endSafe 13 = .ok (.putfield 98, 3) := by decide +kernel
theorem dX15_endSafe_16 : decode cX15_endSafe 16 = .ok (.iload_n 1, 1) := by decide +kernel
theorem dX15_endSafe_17 : decode cX15_endSafe 17 = .ok (.ireturn, 1) := by decide +kernel
set_option maxRecDepth 20000 in
theorem ggX15_oxygen_X15_isRoom : GoodIn wsX15_oxygen wsX15_isRoom := goodIn_r _ [8, 1, 2, 9, 10, 11, 12, 13, 14, 15, 16, 7, 17, 46, 47, 48, 49, 50, 51, 52, 53, 54, 55, 56, 57, 58, 59, 60, 61, 62, 63, 64] (by decide +kernel) (by decide +kernel)
set_option maxRecDepth 20000 in
theorem gX15_oxygen_X15_isRoom : GoodIn wsX15_oxygen (wsV RX15 63 RX15 yX15_isRoom wsX15_isRoom) := goodIn_app (goodIn_of _ (by decide +kernel)) ggX15_oxygen_X15_isRoom
set_option maxRecDepth 20000 in
theorem ggX15_oxygen_X15_no : GoodIn wsX15_oxygen wsX15_no := goodIn_r _ [21, 22, 46, 47] (by decide +kernel) (by decide +kernel)
set_option maxRecDepth 20000 in
theorem gX15_oxygen_X15_no : GoodIn wsX15_oxygen (wsV RX15 43 RX15 yX15_no wsX15_no) := goodIn_app (goodIn_of _ (by decide +kernel)) ggX15_oxygen_X15_no
theorem dX15_oxygen_0 : decode cX15_oxygen 0 = .ok (.aload_n 0, 1) := by decide +kernel
theorem dX15_oxygen_1 : decode cX15_oxygen 1 = .ok (.aload_n 0, 1) := by decide +kernel
theorem dX15_oxygen_2 : decode cX15_oxygen 2 = .ok (.iload_n 1, 1) := by decide +kernel
theorem dX15_oxygen_3 : decode cX15_oxygen 3 = .ok (.invokevirtual 63, 3) := by decide +kernel
theorem dX15_oxygen_6 : decode cX15_oxygen 6 = .ok (.iconst 1, 1) := by decide +kernel
theorem dX15_oxygen_7 : decode cX15_oxygen 7 = .ok (.invokevirtual 43, 3) := by decide +kernel
theorem dX15_oxygen_10 : decode cX15_oxygen 10 = .ok (.ifCond .eq 7, 3) := by decide +kernel
theorem dX15_oxygen_13 : decode cX15_oxygen 13 = .ok (.iconst 0, 1) := by decide +kernel
theorem dX15_oxygen_14 : decode cX15_oxygen 14 = .ok (.goto 22, 3) := by decide +kernel
theorem dX15_oxygen_36 : decode cX15_oxygen 36 = .ok (.ireturn, 1) := by decide +kernel
set_option maxRecDepth 20000 in
theorem ggX15_carbon_X15_isRoom : GoodIn wsX15_carbon wsX15_isRoom := goodIn_r _ [8, 1, 9, 10, 11, 12, 13, 14, 15, 16, 17, 7, 18, 47, 48, 49, 50, 51, 52, 53, 54, 55, 56, 57, 58, 59, 60, 61, 62, 63, 64, 65] (by decide +kernel) (by decide +kernel)
set_option maxRecDepth 20000 in
theorem gX15_carbon_X15_isRoom : GoodIn wsX15_carbon (wsV RX15 63 RX15 yX15_isRoom wsX15_isRoom) := goodIn_app (goodIn_of _ (by decide +kernel)) ggX15_carbon_X15_isRoom
set_option maxRecDepth 20000 in
theorem ggX15_carbon_X15_no : GoodIn wsX15_carbon wsX15_no := goodIn_r _ [22, 23, 47, 48] (by decide +kernel) (by decide +kernel)
set_option maxRecDepth 20000 in
theorem gX15_carbon_X15_no : GoodIn wsX15_carbon (wsV RX15 43 RX15 yX15_no wsX15_no) := goodIn_app (goodIn_of _ (by decide +kernel)) ggX15_carbon_X15_no
theorem dX15_carbon_0 : decode cX15_carbon 0 = .ok (.aload_n 0, 1) := by decide +kernel
theorem dX15_carbon_1 : decode cX15_carbon 1 = .ok (.aload_n 0, 1) := by decide +kernel
theorem dX15_carbon_2 : decode cX15_carbon 2 = .ok (.iload_n 1, 1) := by decide +kernel
theorem dX15_carbon_3 : decode cX15_carbon 3 = .ok (.invokevirtual 63, 3) := by decide +kernel
theorem dX15_carbon_6 : decode cX15_carbon 6 = .ok (.iconst 1, 1) := by decide +kernel
theorem dX15_carbon_7 : decode cX15_carbon 7 = .ok (.invokevirtual 43, 3) := by decide +kernel
theorem dX15_carbon_10 : decode cX15_carbon 10 = .ok (.ifCond .eq 7, 3) := by decide +kernel
theorem dX15_carbon_13 : decode cX15_carbon 13 = .ok (.iconst 0, 1) := by decide +kernel
theorem dX15_carbon_14 : decode cX15_carbon 14 = .ok (.goto 22, 3) := by decide +kernel
theorem dX15_carbon_36 : decode cX15_carbon 36 = .ok (.ireturn, 1) := by decide +kernel
theorem dX15_water_0 : decode cX15_water 0 = .ok (.aload_n 0, 1) := by decide +kernel
theorem dX15_water_1 : decode cX15_water 1 = .ok (.getfield 10, 3) := by decide +kernel
theorem dX15_water_4 : decode cX15_water 4 = .ok (.getfield 183, 3) := by decide +kernel
theorem dX15_water_7 : decode cX15_water 7 = .ok (.ireturn, 1) := by decide +kernel
theorem dX15_battery_0 : decode cX15_battery 0 = .ok (.aload_n 0, 1) := by decide +kernel
theorem dX15_battery_1 : decode cX15_battery 1 = .ok (.getfield 10, 3) := by decide +kernel
theorem dX15_battery_4 : decode cX15_battery 4 = .ok (.getfield 186, 3) := by decide +kernel
theorem dX15_battery_7 : decode cX15_battery 7 = .ok (.ireturn, 1) := by decide +kernel
set_option maxRecDepth 20000 in
theorem ggX15_whereIs_X15_noPerson : GoodIn wsX15_whereIs wsX15_noPerson := goodIn_r _ [9, 1, 2, 10, 11, 12, 13, 14, 15, 16, 17, 8, 18, 19, 20, 21, 22, 23, 41, 42, 43, 44, 45, 46, 47, 48, 49, 50, 51, 52, 53, 54, 55, 56, 60, 61, 62] (by decide +kernel) (by decide +kernel)
set_option maxRecDepth 20000 in
theorem gX15_whereIs_X15_noPerson : GoodIn wsX15_whereIs (wsV RX15 139 RX15 yX15_noPerson wsX15_noPerson) := goodIn_app (goodIn_of _ (by decide +kernel)) ggX15_whereIs_X15_noPerson
theorem dX15_whereIs_0 : decode cX15_whereIs 0 = .ok (.aload_n 0, 1) := by decide +kernel
theorem dX15_whereIs_1 : decode cX15_whereIs 1 = .ok (.iload_n 1, 1) := by decide +kernel
theorem dX15_whereIs_2 : decode cX15_whereIs 2 = .ok (.invokevirtual 139, 3) := by decide +kernel
theorem dX15_whereIs_5 : decode cX15_whereIs 5 = .ok (.ifCond .eq 7, 3) := by decide +kernel
theorem dX15_whereIs_8 : decode cX15_whereIs 8 = .ok (.iconst 0, 1) := by decide +kernel
theorem dX15_whereIs_9 : decode cX15_whereIs 9 = .ok (.goto 22, 3) := by decide +kernel
theorem dX15_whereIs_31 : decode cX15_whereIs 31 = .ok (.ireturn, 1) := by decide +kernel
set_option maxRecDepth 20000 in
theorem ggX15_distance_X15_noShip : GoodIn wsX15_distance wsX15_noShip := goodIn_r _ [9, 1, 2, 10, 11, 12, 13, 14, 15, 16, 17, 8, 18, 19, 20, 21, 22, 23, 41, 42, 43, 44, 45, 46, 47, 48, 49, 50, 51, 52, 53, 54, 55, 56, 61, 62, 63] (by decide +kernel) (by decide +kernel)
set_option maxRecDepth 20000 in
theorem gX15_distance_X15_noShip : GoodIn wsX15_distance (wsV RX15 162 RX15 yX15_noShip wsX15_noShip) := goodIn_app (goodIn_of _ (by decide +kernel)) ggX15_distance_X15_noShip
theorem dX15_distance_0 : decode cX15_distance 0 = .ok (.aload_n 0, 1) := by decide +kernel
theorem dX15_distance_1 : decode cX15_distance 1 = .ok (.iload_n 1, 1) := by decide +kernel
theorem dX15_distance_2 : decode cX15_distance 2 = .ok (.invokevirtual 162, 3) := by decide +kernel
theorem dX15_distance_5 : decode cX15_distance 5 = .ok (.ifCond .eq 7, 3) := by decide +kernel
theorem dX15_distance_8 : decode cX15_distance 8 = .ok (.iconst 0, 1) := by decide +kernel
theorem dX15_distance_9 : decode cX15_distance 9 = .ok (.goto 22, 3) := by decide +kernel
theorem dX15_distance_31 : decode cX15_distance 31 = .ok (.ireturn, 1) := by decide +kernel
set_option maxRecDepth 20000 in
theorem ggX15_isOn_X15_isDevice : GoodIn wsX15_isOn wsX15_isDevice := goodIn_r _ [9, 1, 2, 10, 11, 12, 13, 14, 15, 16, 17, 8, 18, 41, 42, 43, 44, 45, 46, 47, 48, 49, 50, 51, 52, 53, 54, 55, 56, 61, 62, 63] (by decide +kernel) (by decide +kernel)
set_option maxRecDepth 20000 in
theorem gX15_isOn_X15_isDevice : GoodIn wsX15_isOn (wsV RX15 95 RX15 yX15_isDevice wsX15_isDevice) := goodIn_app (goodIn_of _ (by decide +kernel)) ggX15_isOn_X15_isDevice
set_option maxRecDepth 20000 in
theorem ggX15_isOn_X15_no : GoodIn wsX15_isOn wsX15_no := goodIn_r _ [22, 23, 41, 42] (by decide +kernel) (by decide +kernel)
set_option maxRecDepth 20000 in
theorem gX15_isOn_X15_no : GoodIn wsX15_isOn (wsV RX15 43 RX15 yX15_no wsX15_no) := goodIn_app (goodIn_of _ (by decide +kernel)) ggX15_isOn_X15_no
theorem dX15_isOn_0 : decode cX15_isOn 0 = .ok (.aload_n 0, 1) := by decide +kernel
theorem dX15_isOn_1 : decode cX15_isOn 1 = .ok (.aload_n 0, 1) := by decide +kernel
theorem dX15_isOn_2 : decode cX15_isOn 2 = .ok (.iload_n 1, 1) := by decide +kernel
theorem dX15_isOn_3 : decode cX15_isOn 3 = .ok (.invokevirtual 95, 3) := by decide +kernel
theorem dX15_isOn_6 : decode cX15_isOn 6 = .ok (.iconst 1, 1) := by decide +kernel
theorem dX15_isOn_7 : decode cX15_isOn 7 = .ok (.invokevirtual 43, 3) := by decide +kernel
theorem dX15_isOn_10 : decode cX15_isOn 10 = .ok (.ifCond .ne 29, 3) := by decide +kernel
theorem dX15_isOn_39 : decode cX15_isOn 39 = .ok (.iconst 0, 1) := by decide +kernel
theorem dX15_isOn_40 : decode cX15_isOn 40 = .ok (.ireturn, 1) := by decide +kernel
theorem dX15_isSafe_0 : decode cX15_isSafe 0 = .ok (.aload_n 0, 1) := by decide +kernel
theorem dX15_isSafe_1 : decode cX15_isSafe 1 = .ok (.getfield 10, 3) := by decide +kernel
theorem dX15_isSafe_4 : decode cX15_isSafe 4 = .ok (.getfield 98, 3) := by decide +kernel
theorem dX15_isSafe_7 : decode cX15_isSafe 7 = .ok (.ireturn, 1) := by decide +kernel
set_option maxRecDepth 20000 in
theorem ggX15_events_Jx4a65c_size_8abf5 : GoodIn wsX15_events wsJx4a65c_size_8abf5 := goodIn_r _ [7, 8, 25, 26, 27] (by decide +kernel) (by decide +kernel)
set_option maxRecDepth 20000 in
theorem gX15_events_Jx4a65c_size_8abf5_f24Jx4a65c : GoodIn wsX15_events (va_wsF RX15 24 RJx4a65c ⟨"java/util/List", "size", "()I"⟩ yJx4a65c_size_8abf5 wsJx4a65c_size_8abf5) := goodIn_app (goodIn_of _ (by decide +kernel)) ggX15_events_Jx4a65c_size_8abf5
theorem dX15_events_0 : decode cX15_events 0 = .ok (.aload_n 0, 1) := by decide +kernel
theorem dX15_events_1 : decode cX15_events 1 = .ok (.getfield 10, 3) := by decide +kernel
theorem dX15_events_4 : decode cX15_events 4 = .ok (.getfield 189, 3) := by decide +kernel
theorem dX15_events_7 : decode cX15_events 7 = .ok (.invokeinterface 24 1, 5) := by decide +kernel
theorem dX15_events_12 : decode cX15_events 12 = .ok (.ireturn, 1) := by decide +kernel
set_option maxRecDepth 20000 in
theorem ggX15_eventAt_Jx4a65c_size_8abf5 : GoodIn wsX15_eventAt wsJx4a65c_size_8abf5 := goodIn_r _ [9, 10, 58, 59, 60] (by decide +kernel) (by decide +kernel)
set_option maxRecDepth 20000 in
theorem gX15_eventAt_Jx4a65c_size_8abf5_f24Jx4a65c : GoodIn wsX15_eventAt (va_wsF RX15 24 RJx4a65c ⟨"java/util/List", "size", "()I"⟩ yJx4a65c_size_8abf5 wsJx4a65c_size_8abf5) := goodIn_app (goodIn_of _ (by decide +kernel)) ggX15_eventAt_Jx4a65c_size_8abf5
set_option maxRecDepth 20000 in
theorem ggX15_eventAt_X15_isIn : GoodIn wsX15_eventAt wsX15_isIn := goodIn_r _ [14] (by decide +kernel) (by decide +kernel)
set_option maxRecDepth 20000 in
theorem gX15_eventAt_X15_isIn : GoodIn wsX15_eventAt (va_wsS RX15 30 yX15_isIn wsX15_isIn) := goodIn_app (goodIn_of _ (by decide +kernel)) ggX15_eventAt_X15_isIn
set_option maxRecDepth 20000 in
theorem ggX15_eventAt_X15_refuse : GoodIn wsX15_eventAt wsX15_refuse := goodIn_r _ [41, 3, 42, 43] (by decide +kernel) (by decide +kernel)
set_option maxRecDepth 20000 in
theorem gX15_eventAt_X15_refuse : GoodIn wsX15_eventAt (wsV RX15 198 RX15 yX15_refuse wsX15_refuse) := goodIn_app (goodIn_of _ (by decide +kernel)) ggX15_eventAt_X15_refuse
