theorem dX8_init_0 : decode cX8_init 0 = .ok (.aload_n 0, 1) := by decide +kernel
theorem dX8_init_1 : decode cX8_init 1 = .ok (.invokespecial 1, 3) := by decide +kernel
theorem dX8_init_4 : decode cX8_init 4 = .ok (.aload_n 0, 1) := by decide +kernel
theorem dX8_init_5 : decode cX8_init 5 = .ok (.new 7, 3) := by decide +kernel
theorem dX8_init_8 : decode cX8_init 8 = .ok (.dup, 1) := by decide +kernel
theorem dX8_init_9 : decode cX8_init 9 = .ok (.sipush 1024, 3) := by decide +kernel
theorem dX8_init_12 : decode cX8_init 12 = .ok (.invokespecial 11, 3) := by decide +kernel
theorem dX8_init_15 : decode cX8_init 15 = .ok (.putfield 14, 3) := by decide +kernel
theorem dX8_init_18 : decode cX8_init 18 = .ok (.aload_n 0, 1) := by decide +kernel
theorem dX8_init_19 : decode cX8_init 19 = .ok (.new 7, 3) := by decide +kernel
theorem dX8_init_22 : decode cX8_init 22 = .ok (.dup, 1) := by decide +kernel
theorem dX8_init_23 : decode cX8_init 23 = .ok (.iconst 0, 1) := by decide +kernel
theorem dX8_init_24 : decode cX8_init 24 = .ok (.invokespecial 11, 3) := by decide +kernel
theorem dX8_init_27 : decode cX8_init 27 = .ok (.putfield 18, 3) := by decide +kernel
theorem dX8_init_30 : decode cX8_init 30 = .ok (.return_, 1) := by decide +kernel
set_option maxRecDepth 20000 in
theorem ggX8_addRoom_X8_requireRange : GoodIn wsX8_addRoom wsX8_requireRange := goodIn_ca (goodIn_r _ [9, 10, 11] (by decide +kernel) (by decide +kernel)) (goodIn_sub (fun _ h => List.mem_cons_of_mem _ (List.mem_append_left _ (List.mem_append_right _ h))) (by decide +kernel))
set_option maxRecDepth 20000 in
theorem gX8_addRoom_X8_requireRange : GoodIn wsX8_addRoom (va_wsS RX8 21 yX8_requireRange wsX8_requireRange) := goodIn_app (goodIn_of _ (by decide +kernel)) ggX8_addRoom_X8_requireRange
set_option maxRecDepth 20000 in
theorem ggX8_addRoom_X5_isFull : GoodIn wsX8_addRoom wsX5_isFull := goodIn_r _ [16, 17, 39, 40, 41, 42, 43] (by decide +kernel) (by decide +kernel)
set_option maxRecDepth 20000 in
theorem gX8_addRoom_X5_isFull : GoodIn wsX8_addRoom (wsV RX8 29 RX5 yX5_isFull wsX5_isFull) := goodIn_app (goodIn_of _ (by decide +kernel)) ggX8_addRoom_X5_isFull
set_option maxRecDepth 20000 in
theorem ggX8_addRoom_X5_add : GoodIn wsX8_addRoom wsX5_add := goodIn_ca (goodIn_r _ [21, 22, 17, 39, 40, 41, 42, 43] (by decide +kernel) (by decide +kernel)) (goodIn_sub (fun _ h => List.mem_cons_of_mem _ (List.mem_append_right _ h)) (by decide +kernel))
set_option maxRecDepth 20000 in
theorem gX8_addRoom_X5_add : GoodIn wsX8_addRoom (wsV RX8 46 RX5 yX5_add wsX5_add) := goodIn_app (goodIn_of _ (by decide +kernel)) ggX8_addRoom_X5_add
theorem dX8_addRoom_0 : decode cX8_addRoom 0 = .ok (.iload_n 1, 1) := by decide +kernel
theorem dX8_addRoom_1 : decode cX8_addRoom 1 = .ok (.iconst 0, 1) := by decide +kernel
theorem dX8_addRoom_2 : decode cX8_addRoom 2 = .ok (.sipush 200, 3) := by decide +kernel
theorem dX8_addRoom_5 : decode cX8_addRoom 5 = .ok (.invokestatic 21, 3) := by decide +kernel
theorem dX8_addRoom_8 : decode cX8_addRoom 8 = .ok (.aload_n 0, 1) := by decide +kernel
theorem dX8_addRoom_9 : decode cX8_addRoom 9 = .ok (.getfield 14, 3) := by decide +kernel
theorem dX8_addRoom_12 : decode cX8_addRoom 12 = .ok (.getfield 25, 3) := by decide +kernel
theorem dX8_addRoom_15 : decode cX8_addRoom 15 = .ok (.invokevirtual 29, 3) := by decide +kernel
theorem dX8_addRoom_18 : decode cX8_addRoom 18 = .ok (.ifCond .eq 13, 3) := by decide +kernel
theorem dX8_addRoom_21 : decode cX8_addRoom 21 = .ok (.new 35, 3) := by decide +kernel
theorem dX8_addRoom_24 : decode cX8_addRoom 24 = .ok (.dup, 1) := by decide +kernel
theorem dX8_addRoom_25 : decode cX8_addRoom 25 = .ok (.ldc 37, 2) := by decide +kernel
theorem dX8_addRoom_27 : decode cX8_addRoom 27 = .ok (.invokespecial 39, 3) := by decide +kernel
theorem dX8_addRoom_30 : decode cX8_addRoom 30 = .ok (.athrow, 1) := by decide +kernel
theorem dX8_addRoom_31 : decode cX8_addRoom 31 = .ok (.aload_n 0, 1) := by decide +kernel
theorem dX8_addRoom_32 : decode cX8_addRoom 32 = .ok (.getfield 14, 3) := by decide +kernel
theorem dX8_addRoom_35 : decode cX8_addRoom 35 = .ok (.dup, 1) := by decide +kernel
theorem dX8_addRoom_36 : decode cX8_addRoom 36 = .ok (.getfield 42, 3) := by decide +kernel
theorem dX8_addRoom_39 : decode cX8_addRoom 39 = .ok (.iload_n 1, 1) := by decide +kernel
theorem dX8_addRoom_40 : decode cX8_addRoom 40 = .ok (.iadd, 1) := by decide +kernel
theorem dX8_addRoom_41 : decode cX8_addRoom 41 = .ok (.putfield 42, 3) := by decide +kernel
theorem dX8_addRoom_44 : decode cX8_addRoom 44 = .ok (.aload_n 0, 1) := by decide +kernel
theorem dX8_addRoom_45 : decode cX8_addRoom 45 = .ok (.getfield 14, 3) := by decide +kernel
theorem dX8_addRoom_48 : decode cX8_addRoom 48 = .ok (.getfield 25, 3) := by decide +kernel
theorem dX8_addRoom_51 : decode cX8_addRoom 51 = .ok (.iload_n 1, 1) := by decide +kernel
theorem dX8_addRoom_52 : decode cX8_addRoom 52 = .ok (.invokevirtual 46, 3) := by decide +kernel
theorem dX8_addRoom_55 : decode cX8_addRoom 55 = .ok (.ireturn, 1) := by decide +kernel
set_option maxRecDepth 20000 in
theorem ggX8_addHatch_X8_requireRoom : GoodIn wsX8_addHatch wsX8_requireRoom := goodIn_ca (goodIn_r _ [11, 5, 12, 13, 14, 15, 10, 16, 17, 18, 32, 33, 34, 35, 36, 37, 38, 39, 40, 41, 42, 43, 44, 45, 46, 47, 48, 49, 50, 51, 52] (by decide +kernel) (by decide +kernel)) (goodIn_sub (fun _ h => List.mem_cons_of_mem _ (List.mem_append_left _ (List.mem_append_right _ h))) (by decide +kernel))
set_option maxRecDepth 20000 in
theorem gX8_addHatch_X8_requireRoom : GoodIn wsX8_addHatch (wsV RX8 50 RX8 yX8_requireRoom wsX8_requireRoom) := goodIn_app (goodIn_of _ (by decide +kernel)) ggX8_addHatch_X8_requireRoom
set_option maxRecDepth 20000 in
theorem ggX8_addHatch_X4_isFull : GoodIn wsX8_addHatch wsX4_isFull := goodIn_r _ [23, 24, 53, 54, 55, 56] (by decide +kernel) (by decide +kernel)
set_option maxRecDepth 20000 in
theorem gX8_addHatch_X4_isFull : GoodIn wsX8_addHatch (wsV RX8 62 RX4 yX4_isFull wsX4_isFull) := goodIn_app (goodIn_of _ (by decide +kernel)) ggX8_addHatch_X4_isFull
set_option maxRecDepth 20000 in
theorem ggX8_addHatch_X4_add : GoodIn wsX8_addHatch wsX4_add := goodIn_ca (goodIn_r _ [28, 29, 24, 30, 31, 53, 54, 55, 56] (by decide +kernel) (by decide +kernel)) (goodIn_sub (fun _ h => List.mem_cons_of_mem _ (List.mem_append_right _ h)) (by decide +kernel))
set_option maxRecDepth 20000 in
theorem gX8_addHatch_X4_add : GoodIn wsX8_addHatch (wsV RX8 67 RX4 yX4_add wsX4_add) := goodIn_app (goodIn_of _ (by decide +kernel)) ggX8_addHatch_X4_add
theorem dX8_addHatch_0 : decode cX8_addHatch 0 = .ok (.aload_n 0, 1) := by decide +kernel
theorem dX8_addHatch_1 : decode cX8_addHatch 1 = .ok (.iload_n 1, 1) := by decide +kernel
theorem dX8_addHatch_2 : decode cX8_addHatch 2 = .ok (.invokevirtual 50, 3) := by decide +kernel
theorem dX8_addHatch_5 : decode cX8_addHatch 5 = .ok (.aload_n 0, 1) := by decide +kernel
theorem dX8_addHatch_6 : decode cX8_addHatch 6 = .ok (.iload_n 2, 1) := by decide +kernel
theorem dX8_addHatch_7 : decode cX8_addHatch 7 = .ok (.invokevirtual 50, 3) := by decide +kernel
theorem dX8_addHatch_10 : decode cX8_addHatch 10 = .ok (.iload_n 1, 1) := by decide +kernel
theorem dX8_addHatch_11 : decode cX8_addHatch 11 = .ok (.iload_n 2, 1) := by decide +kernel
theorem dX8_addHatch_12 : decode cX8_addHatch 12 = .ok (.if_icmp .ne 13, 3) := by decide +kernel
theorem dX8_addHatch_15 : decode cX8_addHatch 15 = .ok (.new 53, 3) := by decide +kernel
theorem dX8_addHatch_18 : decode cX8_addHatch 18 = .ok (.dup, 1) := by decide +kernel
theorem dX8_addHatch_19 : decode cX8_addHatch 19 = .ok (.ldc 55, 2) := by decide +kernel
theorem dX8_addHatch_21 : decode cX8_addHatch 21 = .ok (.invokespecial 57, 3) := by decide +kernel
theorem dX8_addHatch_24 : decode cX8_addHatch 24 = .ok (.athrow, 1) := by decide +kernel
theorem dX8_addHatch_25 : decode cX8_addHatch 25 = .ok (.aload_n 0, 1) := by decide +kernel
theorem dX8_addHatch_26 : decode cX8_addHatch 26 = .ok (.getfield 14, 3) := by decide +kernel
theorem dX8_addHatch_29 : decode cX8_addHatch 29 = .ok (.getfield 58, 3) := by decide +kernel
theorem dX8_addHatch_32 : decode cX8_addHatch 32 = .ok (.invokevirtual 62, 3) := by decide +kernel
theorem dX8_addHatch_35 : decode cX8_addHatch 35 = .ok (.ifCond .eq 13, 3) := by decide +kernel
theorem dX8_addHatch_38 : decode cX8_addHatch 38 = .ok (.new 35, 3) := by decide +kernel
theorem dX8_addHatch_41 : decode cX8_addHatch 41 = .ok (.dup, 1) := by decide +kernel
theorem dX8_addHatch_42 : decode cX8_addHatch 42 = .ok (.ldc 65, 2) := by decide +kernel
theorem dX8_addHatch_44 : decode cX8_addHatch 44 = .ok (.invokespecial 39, 3) := by decide +kernel
theorem dX8_addHatch_47 : decode cX8_addHatch 47 = .ok (.athrow, 1) := by decide +kernel
theorem dX8_addHatch_48 : decode cX8_addHatch 48 = .ok (.aload_n 0, 1) := by decide +kernel
theorem dX8_addHatch_49 : decode cX8_addHatch 49 = .ok (.getfield 14, 3) := by decide +kernel
theorem dX8_addHatch_52 : decode cX8_addHatch 52 = .ok (.getfield 58, 3) := by decide +kernel
theorem dX8_addHatch_55 : decode cX8_addHatch 55 = .ok (.iload_n 1, 1) := by decide +kernel
theorem dX8_addHatch_56 : decode cX8_addHatch 56 = .ok (.iload_n 2, 1) := by decide +kernel
theorem dX8_addHatch_57 : decode cX8_addHatch 57 = .ok (.invokevirtual 67, 3) := by decide +kernel
theorem dX8_addHatch_60 : decode cX8_addHatch 60 = .ok (.ireturn, 1) := by decide +kernel
set_option maxRecDepth 20000 in
theorem ggX8_setHatch_X8_requireIndex : GoodIn wsX8_setHatch wsX8_requireIndex := goodIn_ca (goodIn_r _ [8, 9, 10] (by decide +kernel) (by decide +kernel)) (goodIn_sub (fun _ h => List.mem_cons_of_mem _ (List.mem_append_right _ h)) (by decide +kernel))
set_option maxRecDepth 20000 in
theorem gX8_setHatch_X8_requireIndex : GoodIn wsX8_setHatch (va_wsS RX8 73 yX8_requireIndex wsX8_requireIndex) := goodIn_app (goodIn_of _ (by decide +kernel)) ggX8_setHatch_X8_requireIndex
theorem dX8_setHatch_0 : decode cX8_setHatch 0 = .ok (.iload_n 1, 1) := by decide +kernel
theorem dX8_setHatch_1 : decode cX8_setHatch 1 = .ok (.aload_n 0, 1) := by decide +kernel
theorem dX8_setHatch_2 : decode cX8_setHatch 2 = .ok (.getfield 14, 3) := by decide +kernel
theorem dX8_setHatch_5 : decode cX8_setHatch 5 = .ok (.getfield 58, 3) := by decide +kernel
theorem dX8_setHatch_8 : decode cX8_setHatch 8 = .ok (.getfield 70, 3) := by decide +kernel
theorem dX8_setHatch_11 : decode cX8_setHatch 11 = .ok (.invokestatic 73, 3) := by decide +kernel
theorem dX8_setHatch_14 : decode cX8_setHatch 14 = .ok (.aload_n 0, 1) := by decide +kernel
theorem dX8_setHatch_15 : decode cX8_setHatch 15 = .ok (.getfield 14, 3) := by decide +kernel
theorem dX8_setHatch_18 : decode cX8_setHatch 18 = .ok (.getfield 58, 3) := by decide +kernel
theorem dX8_setHatch_21 : decode cX8_setHatch 21 = .ok (.getfield 77, 3) := by decide +kernel
theorem dX8_setHatch_24 : decode cX8_setHatch 24 = .ok (.iload_n 1, 1) := by decide +kernel
theorem dX8_setHatch_25 : decode cX8_setHatch 25 = .ok (.baload, 1) := by decide +kernel
theorem dX8_setHatch_26 : decode cX8_setHatch 26 = .ok (.istore_n 3, 1) := by decide +kernel
theorem dX8_setHatch_27 : decode cX8_setHatch 27 = .ok (.aload_n 0, 1) := by decide +kernel
theorem dX8_setHatch_28 : decode cX8_setHatch 28 = .ok (.getfield 14, 3) := by decide +kernel
theorem dX8_setHatch_31 : decode cX8_setHatch 31 = .ok (.getfield 58, 3) := by decide +kernel
theorem dX8_setHatch_34 : decode cX8_setHatch 34 = .ok (.getfield 77, 3) := by decide +kernel
theorem dX8_setHatch_37 : decode cX8_setHatch 37 = .ok (.iload_n 1, 1) := by decide +kernel
theorem dX8_setHatch_38 : decode cX8_setHatch 38 = .ok (.iload_n 2, 1) := by decide +kernel
theorem dX8_setHatch_39 : decode cX8_setHatch 39 = .ok (.bastore, 1) := by decide +kernel
theorem dX8_setHatch_40 : decode cX8_setHatch 40 = .ok (.iload_n 3, 1) := by decide +kernel
theorem dX8_setHatch_41 : decode cX8_setHatch 41 = .ok (.ireturn, 1) := by decide +kernel
set_option maxRecDepth 20000 in
theorem ggX8_setLeak_X8_requireRoom : GoodIn wsX8_setLeak wsX8_requireRoom := goodIn_ca (goodIn_r _ [8, 1, 2, 9, 10, 11, 7, 12, 13, 14, 20, 21, 22, 23, 24, 25, 26, 27, 28, 29, 30, 31, 32, 33, 34, 35, 36, 37, 38, 39, 40] (by decide +kernel) (by decide +kernel)) (goodIn_sub (fun _ h => List.mem_cons_of_mem _ (List.mem_append_left _ (List.mem_append_right _ h))) (by decide +kernel))
set_option maxRecDepth 20000 in
theorem gX8_setLeak_X8_requireRoom : GoodIn wsX8_setLeak (wsV RX8 50 RX8 yX8_requireRoom wsX8_requireRoom) := goodIn_app (goodIn_of _ (by decide +kernel)) ggX8_setLeak_X8_requireRoom
set_option maxRecDepth 20000 in
theorem ggX8_setLeak_X8_requireRange : GoodIn wsX8_setLeak wsX8_requireRange := goodIn_ca (goodIn_r _ [17, 18, 19] (by decide +kernel) (by decide +kernel)) (goodIn_sub (fun _ h => List.mem_cons_of_mem _ (List.mem_append_right _ h)) (by decide +kernel))
set_option maxRecDepth 20000 in
theorem gX8_setLeak_X8_requireRange : GoodIn wsX8_setLeak (va_wsS RX8 21 yX8_requireRange wsX8_requireRange) := goodIn_app (goodIn_of _ (by decide +kernel)) ggX8_setLeak_X8_requireRange
theorem dX8_setLeak_0 : decode cX8_setLeak 0 = .ok (.aload_n 0, 1) := by decide +kernel
theorem dX8_setLeak_1 : decode cX8_setLeak 1 = .ok (.iload_n 1, 1) := by decide +kernel
theorem dX8_setLeak_2 : decode cX8_setLeak 2 = .ok (.invokevirtual 50, 3) := by decide +kernel
theorem dX8_setLeak_5 : decode cX8_setLeak 5 = .ok (.iload_n 2, 1) := by decide +kernel
theorem dX8_setLeak_6 : decode cX8_setLeak 6 = .ok (.iconst 0, 1) := by decide +kernel
theorem dX8_setLeak_7 : decode cX8_setLeak 7 = .ok (.bipush 9, 2) := by decide +kernel
theorem dX8_setLeak_9 : decode cX8_setLeak 9 = .ok (.invokestatic 21, 3) := by decide +kernel
theorem dX8_setLeak_12 : decode cX8_setLeak 12 = .ok (.aload_n 0, 1) := by decide +kernel
theorem dX8_setLeak_13 : decode cX8_setLeak 13 = .ok (.getfield 14, 3) := by decide +kernel
theorem dX8_setLeak_16 : decode cX8_setLeak 16 = .ok (.getfield 25, 3) := by decide +kernel
theorem dX8_setLeak_19 : decode cX8_setLeak 19 = .ok (.getfield 81, 3) := by decide +kernel
theorem dX8_setLeak_22 : decode cX8_setLeak 22 = .ok (.iload_n 1, 1) := by decide +kernel
theorem dX8_setLeak_23 : decode cX8_setLeak 23 = .ok (.iaload, 1) := by decide +kernel
theorem dX8_setLeak_24 : decode cX8_setLeak 24 = .ok (.istore_n 3, 1) := by decide +kernel
theorem dX8_setLeak_25 : decode cX8_setLeak 25 = .ok (.aload_n 0, 1) := by decide +kernel
theorem dX8_setLeak_26 : decode cX8_setLeak 26 = .ok (.getfield 14, 3) := by decide +kernel
theorem dX8_setLeak_29 : decode cX8_setLeak 29 = .ok (.getfield 25, 3) := by decide +kernel
theorem dX8_setLeak_32 : decode cX8_setLeak 32 = .ok (.getfield 81, 3) := by decide +kernel
theorem dX8_setLeak_35 : decode cX8_setLeak 35 = .ok (.iload_n 1, 1) := by decide +kernel
theorem dX8_setLeak_36 : decode cX8_setLeak 36 = .ok (.iload_n 2, 1) := by decide +kernel
theorem dX8_setLeak_37 : decode cX8_setLeak 37 = .ok (.iastore, 1) := by decide +kernel
theorem dX8_setLeak_38 : decode cX8_setLeak 38 = .ok (.iload_n 3, 1) := by decide +kernel
theorem dX8_setLeak_39 : decode cX8_setLeak 39 = .ok (.ireturn, 1) := by decide +kernel
set_option maxRecDepth 20000 in
theorem ggX8_addDevice_X8_requireRoom : GoodIn wsX8_addDevice wsX8_requireRoom := goodIn_ca (goodIn_r _ [11, 5, 12, 13, 14, 15, 10, 16, 17, 18, 31, 32, 33, 34, 35, 36, 37, 38, 39, 40, 41, 42, 43, 44, 45, 46, 47, 48, 49, 50, 51] (by decide +kernel) (by decide +kernel)) (goodIn_sub (fun _ h => List.mem_cons_of_mem _ (List.mem_append_left _ (List.mem_append_right _ h))) (by decide +kernel))
set_option maxRecDepth 20000 in
theorem gX8_addDevice_X8_requireRoom : GoodIn wsX8_addDevice (wsV RX8 50 RX8 yX8_requireRoom wsX8_requireRoom) := goodIn_app (goodIn_of _ (by decide +kernel)) ggX8_addDevice_X8_requireRoom
set_option maxRecDepth 20000 in
theorem ggX8_addDevice_X2_isFull : GoodIn wsX8_addDevice wsX2_isFull := goodIn_r _ [23, 24, 52, 53, 54, 55, 56] (by decide +kernel) (by decide +kernel)
set_option maxRecDepth 20000 in
theorem gX8_addDevice_X2_isFull : GoodIn wsX8_addDevice (wsV RX8 91 RX2 yX2_isFull wsX2_isFull) := goodIn_app (goodIn_of _ (by decide +kernel)) ggX8_addDevice_X2_isFull
set_option maxRecDepth 20000 in
theorem ggX8_addDevice_X2_add : GoodIn wsX8_addDevice wsX2_add := goodIn_ca (goodIn_r _ [28, 29, 24, 30, 52, 53, 54, 55, 56] (by decide +kernel) (by decide +kernel)) (goodIn_sub (fun _ h => List.mem_cons_of_mem _ (List.mem_append_right _ h)) (by decide +kernel))
set_option maxRecDepth 20000 in
theorem gX8_addDevice_X2_add : GoodIn wsX8_addDevice (wsV RX8 96 RX2 yX2_add wsX2_add) := goodIn_app (goodIn_of _ (by decide +kernel)) ggX8_addDevice_X2_add
theorem dX8_addDevice_0 : decode cX8_addDevice 0 = .ok (.iload_n 1, 1) := by decide +kernel
theorem dX8_addDevice_1 : decode cX8_addDevice 1 = .ok (.bipush 115, 2) := by decide +kernel
theorem dX8_addDevice_3 : decode cX8_addDevice 3 = .ok (.if_icmp .eq 25, 3) := by decide +kernel
theorem dX8_addDevice_6 : decode cX8_addDevice 6 = .ok (.iload_n 1, 1) := by decide +kernel
theorem dX8_addDevice_7 : decode cX8_addDevice 7 = .ok (.bipush 101, 2) := by decide +kernel
theorem dX8_addDevice_9 : decode cX8_addDevice 9 = .ok (.if_icmp .eq 19, 3) := by decide +kernel
theorem dX8_addDevice_12 : decode cX8_addDevice 12 = .ok (.iload_n 1, 1) := by decide +kernel
theorem dX8_addDevice_13 : decode cX8_addDevice 13 = .ok (.bipush 108, 2) := by decide +kernel
theorem dX8_addDevice_15 : decode cX8_addDevice 15 = .ok (.if_icmp .eq 13, 3) := by decide +kernel
theorem dX8_addDevice_18 : decode cX8_addDevice 18 = .ok (.new 53, 3) := by decide +kernel
theorem dX8_addDevice_21 : decode cX8_addDevice 21 = .ok (.dup, 1) := by decide +kernel
theorem dX8_addDevice_22 : decode cX8_addDevice 22 = .ok (.ldc 85, 2) := by decide +kernel
theorem dX8_addDevice_24 : decode cX8_addDevice 24 = .ok (.invokespecial 57, 3) := by decide +kernel
theorem dX8_addDevice_27 : decode cX8_addDevice 27 = .ok (.athrow, 1) := by decide +kernel
theorem dX8_addDevice_28 : decode cX8_addDevice 28 = .ok (.aload_n 0, 1) := by decide +kernel
theorem dX8_addDevice_29 : decode cX8_addDevice 29 = .ok (.iload_n 2, 1) := by decide +kernel
theorem dX8_addDevice_30 : decode cX8_addDevice 30 = .ok (.invokevirtual 50, 3) := by decide +kernel
theorem dX8_addDevice_33 : decode cX8_addDevice 33 = .ok (.aload_n 0, 1) := by decide +kernel
theorem dX8_addDevice_34 : decode cX8_addDevice 34 = .ok (.getfield 14, 3) := by decide +kernel
theorem dX8_addDevice_37 : decode cX8_addDevice 37 = .ok (.getfield 87, 3) := by decide +kernel
theorem dX8_addDevice_40 : decode cX8_addDevice 40 = .ok (.invokevirtual 91, 3) := by decide +kernel
theorem dX8_addDevice_43 : decode cX8_addDevice 43 = .ok (.ifCond .eq 13, 3) := by decide +kernel
theorem dX8_addDevice_46 : decode cX8_addDevice 46 = .ok (.new 35, 3) := by decide +kernel
theorem dX8_addDevice_49 : decode cX8_addDevice 49 = .ok (.dup, 1) := by decide +kernel
theorem dX8_addDevice_50 : decode cX8_addDevice 50 = .ok (.ldc 94, 2) := by decide +kernel
theorem dX8_addDevice_52 : decode cX8_addDevice 52 = .ok (.invokespecial 39, 3) := by decide +kernel
theorem dX8_addDevice_55 : decode cX8_addDevice 55 = .ok (.athrow, 1) := by decide +kernel
theorem dX8_addDevice_56 : decode cX8_addDevice 56 = .ok (.aload_n 0, 1) := by decide +kernel
theorem dX8_addDevice_57 : decode cX8_addDevice 57 = .ok (.getfield 14, 3) := by decide +kernel
theorem dX8_addDevice_60 : decode cX8_addDevice 60 = .ok (.getfield 87, 3) := by decide +kernel
theorem dX8_addDevice_63 : decode cX8_addDevice 63 = .ok (.iload_n 1, 1) := by decide +kernel
theorem dX8_addDevice_64 : decode cX8_addDevice 64 = .ok (.iload_n 2, 1) := by decide +kernel
theorem dX8_addDevice_65 : decode cX8_addDevice 65 = .ok (.invokevirtual 96, 3) := by decide +kernel
theorem dX8_addDevice_68 : decode cX8_addDevice 68 = .ok (.ireturn, 1) := by decide +kernel
set_option maxRecDepth 20000 in
theorem ggX8_setDevice_X8_requireIndex : GoodIn wsX8_setDevice wsX8_requireIndex := goodIn_ca (goodIn_r _ [12, 13, 14] (by decide +kernel) (by decide +kernel)) (goodIn_sub (fun _ h => List.mem_cons_of_mem _ (List.mem_append_right _ h)) (by decide +kernel))
set_option maxRecDepth 20000 in
theorem gX8_setDevice_X8_requireIndex : GoodIn wsX8_setDevice (va_wsS RX8 73 yX8_requireIndex wsX8_requireIndex) := goodIn_app (goodIn_of _ (by decide +kernel)) ggX8_setDevice_X8_requireIndex
theorem dX8_setDevice_0 : decode cX8_setDevice 0 = .ok (.iload_n 1, 1) := by decide +kernel
theorem dX8_setDevice_1 : decode cX8_setDevice 1 = .ok (.aload_n 0, 1) := by decide +kernel
theorem dX8_setDevice_2 : decode cX8_setDevice 2 = .ok (.getfield 14, 3) := by decide +kernel
theorem dX8_setDevice_5 : decode cX8_setDevice 5 = .ok (.getfield 87, 3) := by decide +kernel
theorem dX8_setDevice_8 : decode cX8_setDevice 8 = .ok (.getfield 99, 3) := by decide +kernel
theorem dX8_setDevice_11 : decode cX8_setDevice 11 = .ok (.invokestatic 73, 3) := by decide +kernel
theorem dX8_setDevice_14 : decode cX8_setDevice 14 = .ok (.iload_n 2, 1) := by decide +kernel
theorem dX8_setDevice_15 : decode cX8_setDevice 15 = .ok (.ifCond .eq 40, 3) := by decide +kernel
theorem dX8_setDevice_18 : decode cX8_setDevice 18 = .ok (.aload_n 0, 1) := by decide +kernel
theorem dX8_setDevice_19 : decode cX8_setDevice 19 = .ok (.getfield 14, 3) := by decide +kernel
theorem dX8_setDevice_22 : decode cX8_setDevice 22 = .ok (.getfield 100, 3) := by decide +kernel
theorem dX8_setDevice_25 : decode cX8_setDevice 25 = .ok (.ifCond .eq 30, 3) := by decide +kernel
theorem dX8_setDevice_28 : decode cX8_setDevice 28 = .ok (.aload_n 0, 1) := by decide +kernel
theorem dX8_setDevice_29 : decode cX8_setDevice 29 = .ok (.getfield 14, 3) := by decide +kernel
theorem dX8_setDevice_32 : decode cX8_setDevice 32 = .ok (.getfield 87, 3) := by decide +kernel
theorem dX8_setDevice_35 : decode cX8_setDevice 35 = .ok (.getfield 104, 3) := by decide +kernel
theorem dX8_setDevice_38 : decode cX8_setDevice 38 = .ok (.iload_n 1, 1) := by decide +kernel
theorem dX8_setDevice_39 : decode cX8_setDevice 39 = .ok (.caload, 1) := by decide +kernel
theorem dX8_setDevice_40 : decode cX8_setDevice 40 = .ok (.bipush 108, 2) := by decide +kernel
theorem dX8_setDevice_42 : decode cX8_setDevice 42 = .ok (.if_icmp .ne 13, 3) := by decide +kernel
theorem dX8_setDevice_45 : decode cX8_setDevice 45 = .ok (.new 108, 3) := by decide +kernel
theorem dX8_setDevice_48 : decode cX8_setDevice 48 = .ok (.dup, 1) := by decide +kernel
theorem dX8_setDevice_49 : decode cX8_setDevice 49 = .ok (.ldc 110, 2) := by decide +kernel
theorem dX8_setDevice_51 : decode cX8_setDevice 51 = .ok (.invokespecial 112, 3) := by decide +kernel
theorem dX8_setDevice_54 : decode cX8_setDevice 54 = .ok (.athrow, 1) := by decide +kernel
theorem dX8_setDevice_55 : decode cX8_setDevice 55 = .ok (.aload_n 0, 1) := by decide +kernel
theorem dX8_setDevice_56 : decode cX8_setDevice 56 = .ok (.getfield 14, 3) := by decide +kernel
theorem dX8_setDevice_59 : decode cX8_setDevice 59 = .ok (.getfield 87, 3) := by decide +kernel
theorem dX8_setDevice_62 : decode cX8_setDevice 62 = .ok (.getfield 113, 3) := by decide +kernel
theorem dX8_setDevice_65 : decode cX8_setDevice 65 = .ok (.iload_n 1, 1) := by decide +kernel
theorem dX8_setDevice_66 : decode cX8_setDevice 66 = .ok (.baload, 1) := by decide +kernel
theorem dX8_setDevice_67 : decode cX8_setDevice 67 = .ok (.istore_n 3, 1) := by decide +kernel
theorem dX8_setDevice_68 : decode cX8_setDevice 68 = .ok (.aload_n 0, 1) := by decide +kernel
theorem dX8_setDevice_69 : decode cX8_setDevice 69 = .ok (.getfield 14, 3) := by decide +kernel
theorem dX8_setDevice_72 : decode cX8_setDevice 72 = .ok (.getfield 87, 3) := by decide +kernel
theorem dX8_setDevice_75 : decode cX8_setDevice 75 = .ok (.getfield 113, 3) := by decide +kernel
theorem dX8_setDevice_78 : decode cX8_setDevice 78 = .ok (.iload_n 1, 1) := by decide +kernel
theorem dX8_setDevice_79 : decode cX8_setDevice 79 = .ok (.iload_n 2, 1) := by decide +kernel
theorem dX8_setDevice_80 : decode cX8_setDevice 80 = .ok (.bastore, 1) := by decide +kernel
theorem dX8_setDevice_81 : decode cX8_setDevice 81 = .ok (.iload_n 3, 1) := by decide +kernel
theorem dX8_setDevice_82 : decode cX8_setDevice 82 = .ok (.ireturn, 1) := by decide +kernel
set_option maxRecDepth 20000 in
theorem ggX8_setPanels_X8_requireRange : GoodIn wsX8_setPanels wsX8_requireRange := goodIn_ca (goodIn_r _ [6, 7, 8] (by decide +kernel) (by decide +kernel)) (goodIn_sub (fun _ h => List.mem_cons_of_mem _ (List.mem_append_right _ h)) (by decide +kernel))
set_option maxRecDepth 20000 in
theorem gX8_setPanels_X8_requireRange : GoodIn wsX8_setPanels (va_wsS RX8 21 yX8_requireRange wsX8_requireRange) := goodIn_app (goodIn_of _ (by decide +kernel)) ggX8_setPanels_X8_requireRange
theorem dX8_setPanels_0 : decode cX8_setPanels 0 = .ok (.iload_n 1, 1) := by decide +kernel
theorem dX8_setPanels_1 : decode cX8_setPanels 1 = .ok (.iconst 0, 1) := by decide +kernel
theorem dX8_setPanels_2 : decode cX8_setPanels 2 = .ok (.bipush 40, 2) := by decide +kernel
theorem dX8_setPanels_4 : decode cX8_setPanels 4 = .ok (.invokestatic 21, 3) := by decide +kernel
theorem dX8_setPanels_7 : decode cX8_setPanels 7 = .ok (.aload_n 0, 1) := by decide +kernel
theorem dX8_setPanels_8 : decode cX8_setPanels 8 = .ok (.getfield 14, 3) := by decide +kernel
theorem dX8_setPanels_11 : decode cX8_setPanels 11 = .ok (.getfield 116, 3) := by decide +kernel
theorem dX8_setPanels_14 : decode cX8_setPanels 14 = .ok (.istore_n 2, 1) := by decide +kernel
theorem dX8_setPanels_15 : decode cX8_setPanels 15 = .ok (.aload_n 0, 1) := by decide +kernel
theorem dX8_setPanels_16 : decode cX8_setPanels 16 = .ok (.getfield 14, 3) := by decide +kernel
theorem dX8_setPanels_19 : decode cX8_setPanels 19 = .ok (.iload_n 1, 1) := by decide +kernel
theorem dX8_setPanels_20 : decode cX8_setPanels 20 = .ok (.putfield 116, 3) := by decide +kernel
theorem dX8_setPanels_23 : decode cX8_setPanels 23 = .ok (.iload_n 2, 1) := by decide +kernel
theorem dX8_setPanels_24 : decode cX8_setPanels 24 = .ok (.ireturn, 1) := by decide +kernel
set_option maxRecDepth 20000 in
theorem ggX8_board_X8_requireRoom : GoodIn wsX8_board wsX8_requireRoom := goodIn_ca (goodIn_r _ [9, 3, 10, 11, 12, 13, 8, 14, 15, 16, 29, 30, 31, 32, 33, 34, 35, 36, 37, 38, 39, 40, 41, 42, 43, 44, 45, 46, 47, 48, 49] (by decide +kernel) (by decide +kernel)) (goodIn_sub (fun _ h => List.mem_cons_of_mem _ (List.mem_append_left _ (List.mem_append_right _ h))) (by decide +kernel))
set_option maxRecDepth 20000 in
theorem gX8_board_X8_requireRoom : GoodIn wsX8_board (wsV RX8 50 RX8 yX8_requireRoom wsX8_requireRoom) := goodIn_app (goodIn_of _ (by decide +kernel)) ggX8_board_X8_requireRoom
set_option maxRecDepth 20000 in
theorem ggX8_board_X1_isFull : GoodIn wsX8_board wsX1_isFull := goodIn_r _ [21, 22, 50, 51, 52, 53, 54, 55] (by decide +kernel) (by decide +kernel)
set_option maxRecDepth 20000 in
theorem gX8_board_X1_isFull : GoodIn wsX8_board (wsV RX8 123 RX1 yX1_isFull wsX1_isFull) := goodIn_app (goodIn_of _ (by decide +kernel)) ggX8_board_X1_isFull
set_option maxRecDepth 20000 in
theorem ggX8_board_X1_add : GoodIn wsX8_board wsX1_add := goodIn_ca (goodIn_r _ [26, 27, 22, 28, 50, 51, 52, 53, 54, 55] (by decide +kernel) (by decide +kernel)) (goodIn_sub (fun _ h => List.mem_cons_of_mem _ (List.mem_append_right _ h)) (by decide +kernel))
set_option maxRecDepth 20000 in
theorem gX8_board_X1_add : GoodIn wsX8_board (wsV RX8 128 RX1 yX1_add wsX1_add) := goodIn_app (goodIn_of _ (by decide +kernel)) ggX8_board_X1_add
theorem dX8_board_0 : decode cX8_board 0 = .ok (.aload_n 0, 1) := by decide +kernel
theorem dX8_board_1 : decode cX8_board 1 = .ok (.iload_n 1, 1) := by decide +kernel
theorem dX8_board_2 : decode cX8_board 2 = .ok (.invokevirtual 50, 3) := by decide +kernel
theorem dX8_board_5 : decode cX8_board 5 = .ok (.aload_n 0, 1) := by decide +kernel
theorem dX8_board_6 : decode cX8_board 6 = .ok (.getfield 14, 3) := by decide +kernel
theorem dX8_board_9 : decode cX8_board 9 = .ok (.getfield 119, 3) := by decide +kernel
theorem dX8_board_12 : decode cX8_board 12 = .ok (.invokevirtual 123, 3) := by decide +kernel
theorem dX8_board_15 : decode cX8_board 15 = .ok (.ifCond .eq 13, 3) := by decide +kernel
theorem dX8_board_18 : decode cX8_board 18 = .ok (.new 35, 3) := by decide +kernel
theorem dX8_board_21 : decode cX8_board 21 = .ok (.dup, 1) := by decide +kernel
theorem dX8_board_22 : decode cX8_board 22 = .ok (.ldc 126, 2) := by decide +kernel
theorem dX8_board_24 : decode cX8_board 24 = .ok (.invokespecial 39, 3) := by decide +kernel
theorem dX8_board_27 : decode cX8_board 27 = .ok (.athrow, 1) := by decide +kernel
theorem dX8_board_28 : decode cX8_board 28 = .ok (.aload_n 0, 1) := by decide +kernel
theorem dX8_board_29 : decode cX8_board 29 = .ok (.getfield 14, 3) := by decide +kernel
theorem dX8_board_32 : decode cX8_board 32 = .ok (.getfield 119, 3) := by decide +kernel
theorem dX8_board_35 : decode cX8_board 35 = .ok (.iload_n 1, 1) := by decide +kernel
theorem dX8_board_36 : decode cX8_board 36 = .ok (.invokevirtual 128, 3) := by decide +kernel
theorem dX8_board_39 : decode cX8_board 39 = .ok (.ireturn, 1) := by decide +kernel
set_option maxRecDepth 20000 in
theorem ggX8_move_X8_requireIndex : GoodIn wsX8_move wsX8_requireIndex := goodIn_ca (goodIn_r _ [11, 12, 13] (by decide +kernel) (by decide +kernel)) (goodIn_sub (fun _ h => List.mem_cons_of_mem _ (List.mem_append_left _ (List.mem_append_right _ h))) (by decide +kernel))
set_option maxRecDepth 20000 in
theorem gX8_move_X8_requireIndex : GoodIn wsX8_move (va_wsS RX8 73 yX8_requireIndex wsX8_requireIndex) := goodIn_app (goodIn_of _ (by decide +kernel)) ggX8_move_X8_requireIndex
set_option maxRecDepth 20000 in
theorem ggX8_move_X8_requireRoom : GoodIn wsX8_move wsX8_requireRoom := goodIn_ca (goodIn_r _ [17, 3, 18, 19, 8, 9, 10, 11, 12, 13, 36, 37, 38, 39, 40, 41, 42, 43, 44, 45, 46, 47, 48, 49, 50, 51, 58, 59, 60, 61, 62] (by decide +kernel) (by decide +kernel)) (goodIn_sub (fun _ h => List.mem_cons_of_mem _ (List.mem_append_left _ (List.mem_append_right _ h))) (by decide +kernel))
set_option maxRecDepth 20000 in
theorem gX8_move_X8_requireRoom : GoodIn wsX8_move (wsV RX8 50 RX8 yX8_requireRoom wsX8_requireRoom) := goodIn_app (goodIn_of _ (by decide +kernel)) ggX8_move_X8_requireRoom
set_option maxRecDepth 20000 in
theorem ggX8_move_X8_requireAlive : GoodIn wsX8_move wsX8_requireAlive := goodIn_ca (goodIn_ca (goodIn_r _ [23, 24, 25, 3, 4, 26, 36, 37, 38, 39, 40, 41, 42, 43, 44, 45, 46, 47, 48, 49, 50, 51, 52, 53, 54, 55, 56, 57] (by decide +kernel) (by decide +kernel)) (goodIn_sub (fun _ h => List.mem_cons_of_mem _ (List.mem_append_left _ (List.mem_append_left _ (List.mem_append_left _ (List.mem_append_right _ h))))) (by decide +kernel))) (goodIn_sub (fun _ h => List.mem_cons_of_mem _ (List.mem_append_right _ h)) (by decide +kernel))
set_option maxRecDepth 20000 in
theorem gX8_move_X8_requireAlive : GoodIn wsX8_move (wsV RX8 130 RX8 yX8_requireAlive wsX8_requireAlive) := goodIn_app (goodIn_of _ (by decide +kernel)) ggX8_move_X8_requireAlive
set_option maxRecDepth 20000 in
theorem ggX8_move_X4_joinsOpen : GoodIn wsX8_move wsX4_joinsOpen := goodIn_ca (goodIn_r _ [31, 32, 33, 34, 35, 63, 64, 65, 66] (by decide +kernel) (by decide +kernel)) (goodIn_sub (fun _ h => List.mem_cons_of_mem _ (List.mem_append_left _ (List.mem_append_left _ (List.mem_append_left _ (List.mem_append_right _ h))))) (by decide +kernel))
set_option maxRecDepth 20000 in
theorem gX8_move_X4_joinsOpen : GoodIn wsX8_move (wsV RX8 136 RX4 yX4_joinsOpen wsX4_joinsOpen) := goodIn_app (goodIn_of _ (by decide +kernel)) ggX8_move_X4_joinsOpen
theorem dX8_move_0 : decode cX8_move 0 = .ok (.iload_n 1, 1) := by decide +kernel
theorem dX8_move_1 : decode cX8_move 1 = .ok (.aload_n 0, 1) := by decide +kernel
theorem dX8_move_2 : decode cX8_move 2 = .ok (.getfield 14, 3) := by decide +kernel
theorem dX8_move_5 : decode cX8_move 5 = .ok (.getfield 119, 3) := by decide +kernel
theorem dX8_move_8 : decode cX8_move 8 = .ok (.getfield 129, 3) := by decide +kernel
theorem dX8_move_11 : decode cX8_move 11 = .ok (.invokestatic 73, 3) := by decide +kernel
theorem dX8_move_14 : decode cX8_move 14 = .ok (.aload_n 0, 1) := by decide +kernel
theorem dX8_move_15 : decode cX8_move 15 = .ok (.iload_n 2, 1) := by decide +kernel
theorem dX8_move_16 : decode cX8_move 16 = .ok (.invokevirtual 50, 3) := by decide +kernel
theorem dX8_move_19 : decode cX8_move 19 = .ok (.aload_n 0, 1) := by decide +kernel
theorem dX8_move_20 : decode cX8_move 20 = .ok (.iload_n 1, 1) := by decide +kernel
theorem dX8_move_21 : decode cX8_move 21 = .ok (.invokevirtual 130, 3) := by decide +kernel
theorem dX8_move_24 : decode cX8_move 24 = .ok (.aload_n 0, 1) := by decide +kernel
theorem dX8_move_25 : decode cX8_move 25 = .ok (.getfield 14, 3) := by decide +kernel
theorem dX8_move_28 : decode cX8_move 28 = .ok (.getfield 119, 3) := by decide +kernel
theorem dX8_move_31 : decode cX8_move 31 = .ok (.getfield 133, 3) := by decide +kernel
theorem dX8_move_34 : decode cX8_move 34 = .ok (.iload_n 1, 1) := by decide +kernel
theorem dX8_move_35 : decode cX8_move 35 = .ok (.iaload, 1) := by decide +kernel
theorem dX8_move_36 : decode cX8_move 36 = .ok (.istore_n 3, 1) := by decide +kernel
theorem dX8_move_37 : decode cX8_move 37 = .ok (.aload_n 0, 1) := by decide +kernel
theorem dX8_move_38 : decode cX8_move 38 = .ok (.getfield 14, 3) := by decide +kernel
theorem dX8_move_41 : decode cX8_move 41 = .ok (.getfield 58, 3) := by decide +kernel
theorem dX8_move_44 : decode cX8_move 44 = .ok (.iload_n 3, 1) := by decide +kernel
theorem dX8_move_45 : decode cX8_move 45 = .ok (.iload_n 2, 1) := by decide +kernel
theorem dX8_move_46 : decode cX8_move 46 = .ok (.invokevirtual 136, 3) := by decide +kernel
theorem dX8_move_49 : decode cX8_move 49 = .ok (.ifCond .ne 13, 3) := by decide +kernel
theorem dX8_move_52 : decode cX8_move 52 = .ok (.new 108, 3) := by decide +kernel
theorem dX8_move_55 : decode cX8_move 55 = .ok (.dup, 1) := by decide +kernel
theorem dX8_move_56 : decode cX8_move 56 = .ok (.ldc 140, 2) := by decide +kernel
theorem dX8_move_58 : decode cX8_move 58 = .ok (.invokespecial 112, 3) := by decide +kernel
theorem dX8_move_61 : decode cX8_move 61 = .ok (.athrow, 1) := by decide +kernel
theorem dX8_move_62 : decode cX8_move 62 = .ok (.aload_n 0, 1) := by decide +kernel
theorem dX8_move_63 : decode cX8_move 63 = .ok (.getfield 14, 3) := by decide +kernel
theorem dX8_move_66 : decode cX8_move 66 = .ok (.getfield 119, 3) := by decide +kernel
theorem dX8_move_69 : decode cX8_move 69 = .ok (.getfield 133, 3) := by decide +kernel
theorem dX8_move_72 : decode cX8_move 72 = .ok (.iload_n 1, 1) := by decide +kernel
theorem dX8_move_73 : decode cX8_move 73 = .ok (.iload_n 2, 1) := by decide +kernel
theorem dX8_move_74 : decode cX8_move 74 = .ok (.iastore, 1) := by decide +kernel
theorem dX8_move_75 : decode cX8_move 75 = .ok (.iload_n 3, 1) := by decide +kernel
theorem dX8_move_76 : decode cX8_move 76 = .ok (.ireturn, 1) := by decide +kernel
set_option maxRecDepth 20000 in
theorem ggX8_setTask_X8_requireIndex : GoodIn wsX8_setTask wsX8_requireIndex := goodIn_ca (goodIn_r _ [13, 14, 15] (by decide +kernel) (by decide +kernel)) (goodIn_sub (fun _ h => List.mem_cons_of_mem _ (List.mem_append_left _ (List.mem_append_right _ h))) (by decide +kernel))
set_option maxRecDepth 20000 in
theorem gX8_setTask_X8_requireIndex : GoodIn wsX8_setTask (va_wsS RX8 73 yX8_requireIndex wsX8_requireIndex) := goodIn_app (goodIn_of _ (by decide +kernel)) ggX8_setTask_X8_requireIndex
set_option maxRecDepth 20000 in
theorem ggX8_setTask_X8_requireAlive : GoodIn wsX8_setTask wsX8_requireAlive := goodIn_ca (goodIn_ca (goodIn_r _ [19, 20, 21, 5, 6, 22, 23, 24, 25, 26, 27, 28, 29, 30, 31, 32, 33, 34, 35, 36, 37, 38, 39, 40, 41, 42, 43, 44] (by decide +kernel) (by decide +kernel)) (goodIn_sub (fun _ h => List.mem_cons_of_mem _ (List.mem_append_left _ (List.mem_append_left _ (List.mem_append_right _ h)))) (by decide +kernel))) (goodIn_sub (fun _ h => List.mem_cons_of_mem _ (List.mem_append_right _ h)) (by decide +kernel))
set_option maxRecDepth 20000 in
theorem gX8_setTask_X8_requireAlive : GoodIn wsX8_setTask (wsV RX8 130 RX8 yX8_requireAlive wsX8_requireAlive) := goodIn_app (goodIn_of _ (by decide +kernel)) ggX8_setTask_X8_requireAlive
theorem dX8_setTask_0 : decode cX8_setTask 0 = .ok (.iload_n 1, 1) := by decide +kernel
theorem dX8_setTask_1 : decode cX8_setTask 1 = .ok (.aload_n 0, 1) := by decide +kernel
theorem dX8_setTask_2 : decode cX8_setTask 2 = .ok (.getfield 14, 3) := by decide +kernel
theorem dX8_setTask_5 : decode cX8_setTask 5 = .ok (.getfield 119, 3) := by decide +kernel
theorem dX8_setTask_8 : decode cX8_setTask 8 = .ok (.getfield 129, 3) := by decide +kernel
theorem dX8_setTask_11 : decode cX8_setTask 11 = .ok (.invokestatic 73, 3) := by decide +kernel
theorem dX8_setTask_14 : decode cX8_setTask 14 = .ok (.iload_n 2, 1) := by decide +kernel
theorem dX8_setTask_15 : decode cX8_setTask 15 = .ok (.bipush 114, 2) := by decide +kernel
theorem dX8_setTask_17 : decode cX8_setTask 17 = .ok (.if_icmp .eq 25, 3) := by decide +kernel
theorem dX8_setTask_20 : decode cX8_setTask 20 = .ok (.iload_n 2, 1) := by decide +kernel
theorem dX8_setTask_21 : decode cX8_setTask 21 = .ok (.bipush 119, 2) := by decide +kernel
theorem dX8_setTask_23 : decode cX8_setTask 23 = .ok (.if_icmp .eq 19, 3) := by decide +kernel
theorem dX8_setTask_26 : decode cX8_setTask 26 = .ok (.iload_n 2, 1) := by decide +kernel
theorem dX8_setTask_27 : decode cX8_setTask 27 = .ok (.bipush 115, 2) := by decide +kernel
theorem dX8_setTask_29 : decode cX8_setTask 29 = .ok (.if_icmp .eq 13, 3) := by decide +kernel
theorem dX8_setTask_32 : decode cX8_setTask 32 = .ok (.new 53, 3) := by decide +kernel
theorem dX8_setTask_35 : decode cX8_setTask 35 = .ok (.dup, 1) := by decide +kernel
theorem dX8_setTask_36 : decode cX8_setTask 36 = .ok (.ldc 142, 2) := by decide +kernel
theorem dX8_setTask_38 : decode cX8_setTask 38 = .ok (.invokespecial 57, 3) := by decide +kernel
theorem dX8_setTask_41 : decode cX8_setTask 41 = .ok (.athrow, 1) := by decide +kernel
theorem dX8_setTask_42 : decode cX8_setTask 42 = .ok (.aload_n 0, 1) := by decide +kernel
theorem dX8_setTask_43 : decode cX8_setTask 43 = .ok (.iload_n 1, 1) := by decide +kernel
theorem dX8_setTask_44 : decode cX8_setTask 44 = .ok (.invokevirtual 130, 3) := by decide +kernel
theorem dX8_setTask_47 : decode cX8_setTask 47 = .ok (.iload_n 2, 1) := by decide +kernel
theorem dX8_setTask_48 : decode cX8_setTask 48 = .ok (.bipush 119, 2) := by decide +kernel
theorem dX8_setTask_50 : decode cX8_setTask 50 = .ok (.if_icmp .ne 23, 3) := by decide +kernel
theorem dX8_setTask_53 : decode cX8_setTask 53 = .ok (.aload_n 0, 1) := by decide +kernel
theorem dX8_setTask_54 : decode cX8_setTask 54 = .ok (.getfield 14, 3) := by decide +kernel
theorem dX8_setTask_57 : decode cX8_setTask 57 = .ok (.getfield 100, 3) := by decide +kernel
theorem dX8_setTask_60 : decode cX8_setTask 60 = .ok (.ifCond .eq 13, 3) := by decide +kernel
theorem dX8_setTask_63 : decode cX8_setTask 63 = .ok (.new 108, 3) := by decide +kernel
theorem dX8_setTask_66 : decode cX8_setTask 66 = .ok (.dup, 1) := by decide +kernel
theorem dX8_setTask_67 : decode cX8_setTask 67 = .ok (.ldc 144, 2) := by decide +kernel
theorem dX8_setTask_69 : decode cX8_setTask 69 = .ok (.invokespecial 112, 3) := by decide +kernel
theorem dX8_setTask_72 : decode cX8_setTask 72 = .ok (.athrow, 1) := by decide +kernel
theorem dX8_setTask_73 : decode cX8_setTask 73 = .ok (.aload_n 0, 1) := by decide +kernel
theorem dX8_setTask_74 : decode cX8_setTask 74 = .ok (.getfield 14, 3) := by decide +kernel
theorem dX8_setTask_77 : decode cX8_setTask 77 = .ok (.getfield 119, 3) := by decide +kernel
theorem dX8_setTask_80 : decode cX8_setTask 80 = .ok (.getfield 146, 3) := by decide +kernel
theorem dX8_setTask_83 : decode cX8_setTask 83 = .ok (.iload_n 1, 1) := by decide +kernel
theorem dX8_setTask_84 : decode cX8_setTask 84 = .ok (.caload, 1) := by decide +kernel
theorem dX8_setTask_85 : decode cX8_setTask 85 = .ok (.istore_n 3, 1) := by decide +kernel
theorem dX8_setTask_86 : decode cX8_setTask 86 = .ok (.aload_n 0, 1) := by decide +kernel
theorem dX8_setTask_87 : decode cX8_setTask 87 = .ok (.getfield 14, 3) := by decide +kernel
theorem dX8_setTask_90 : decode cX8_setTask 90 = .ok (.getfield 119, 3) := by decide +kernel
theorem dX8_setTask_93 : decode cX8_setTask 93 = .ok (.getfield 146, 3) := by decide +kernel
theorem dX8_setTask_96 : decode cX8_setTask 96 = .ok (.iload_n 1, 1) := by decide +kernel
theorem dX8_setTask_97 : decode cX8_setTask 97 = .ok (.iload_n 2, 1) := by decide +kernel
theorem dX8_setTask_98 : decode cX8_setTask 98 = .ok (.castore, 1) := by decide +kernel
theorem dX8_setTask_99 : decode cX8_setTask 99 = .ok (.iload_n 3, 1) := by decide +kernel
theorem dX8_setTask_100 : decode cX8_setTask 100 = .ok (.ireturn, 1) := by decide +kernel
set_option maxRecDepth 20000 in
theorem ggX8_send_X8_requireRange : GoodIn wsX8_send wsX8_requireRange := goodIn_ca (goodIn_r _ [18, 1, 2] (by decide +kernel) (by decide +kernel)) (goodIn_sub (fun _ h => List.mem_cons_of_mem _ (List.mem_append_left _ (List.mem_append_left _ (List.mem_append_left _ (List.mem_append_left _ (List.mem_append_right _ h)))))) (by decide +kernel))
set_option maxRecDepth 20000 in
theorem gX8_send_X8_requireRange : GoodIn wsX8_send (va_wsS RX8 21 yX8_requireRange wsX8_requireRange) := goodIn_app (goodIn_of _ (by decide +kernel)) ggX8_send_X8_requireRange
set_option maxRecDepth 20000 in
theorem ggX8_send_X8_requireIndex : GoodIn wsX8_send wsX8_requireIndex := goodIn_ca (goodIn_r _ [21, 22, 23] (by decide +kernel) (by decide +kernel)) (goodIn_sub (fun _ h => List.mem_cons_of_mem _ (List.mem_append_left _ (List.mem_append_right _ h))) (by decide +kernel))
set_option maxRecDepth 20000 in
theorem gX8_send_X8_requireIndex : GoodIn wsX8_send (va_wsS RX8 73 yX8_requireIndex wsX8_requireIndex) := goodIn_app (goodIn_of _ (by decide +kernel)) ggX8_send_X8_requireIndex
set_option maxRecDepth 20000 in
theorem ggX8_send_X0_isFull : GoodIn wsX8_send wsX0_isFull := goodIn_r _ [28, 29, 63, 64, 65, 66, 67] (by decide +kernel) (by decide +kernel)
set_option maxRecDepth 20000 in
theorem gX8_send_X0_isFull : GoodIn wsX8_send (wsV RX8 155 RX0 yX0_isFull wsX0_isFull) := goodIn_app (goodIn_of _ (by decide +kernel)) ggX8_send_X0_isFull
set_option maxRecDepth 20000 in
theorem ggX8_send_X0_add : GoodIn wsX8_send wsX0_add := goodIn_ca (goodIn_r _ [33, 34, 29, 35, 36, 37, 63, 64, 65, 66, 67] (by decide +kernel) (by decide +kernel)) (goodIn_sub (fun _ h => List.mem_cons_of_mem _ (List.mem_append_right _ h)) (by decide +kernel))
set_option maxRecDepth 20000 in
theorem gX8_send_X0_add : GoodIn wsX8_send (wsV RX8 165 RX0 yX0_add wsX0_add) := goodIn_app (goodIn_of _ (by decide +kernel)) ggX8_send_X0_add
theorem dX8_send_0 : decode cX8_send 0 = .ok (.iload_n 1, 1) := by decide +kernel
theorem dX8_send_1 : decode cX8_send 1 = .ok (.bipush 110, 2) := by decide +kernel
theorem dX8_send_3 : decode cX8_send 3 = .ok (.if_icmp .eq 9, 3) := by decide +kernel
theorem dX8_send_6 : decode cX8_send 6 = .ok (.iload_n 1, 1) := by decide +kernel
theorem dX8_send_7 : decode cX8_send 7 = .ok (.bipush 102, 2) := by decide +kernel
theorem dX8_send_9 : decode cX8_send 9 = .ok (.if_icmp .ne 7, 3) := by decide +kernel
theorem dX8_send_12 : decode cX8_send 12 = .ok (.iconst 1, 1) := by decide +kernel
theorem dX8_send_13 : decode cX8_send 13 = .ok (.goto 4, 3) := by decide +kernel
theorem dX8_send_16 : decode cX8_send 16 = .ok (.iconst 0, 1) := by decide +kernel
theorem dX8_send_17 : decode cX8_send 17 = .ok (.istore 5, 2) := by decide +kernel
theorem dX8_send_19 : decode cX8_send 19 = .ok (.iload 5, 2) := by decide +kernel
theorem dX8_send_21 : decode cX8_send 21 = .ok (.ifCond .ne 25, 3) := by decide +kernel
theorem dX8_send_24 : decode cX8_send 24 = .ok (.iload_n 1, 1) := by decide +kernel
theorem dX8_send_25 : decode cX8_send 25 = .ok (.bipush 111, 2) := by decide +kernel
theorem dX8_send_27 : decode cX8_send 27 = .ok (.if_icmp .eq 19, 3) := by decide +kernel
theorem dX8_send_30 : decode cX8_send 30 = .ok (.iload_n 1, 1) := by decide +kernel
theorem dX8_send_31 : decode cX8_send 31 = .ok (.bipush 104, 2) := by decide +kernel
theorem dX8_send_33 : decode cX8_send 33 = .ok (.if_icmp .eq 13, 3) := by decide +kernel
theorem dX8_send_36 : decode cX8_send 36 = .ok (.new 53, 3) := by decide +kernel
theorem dX8_send_39 : decode cX8_send 39 = .ok (.dup, 1) := by decide +kernel
theorem dX8_send_40 : decode cX8_send 40 = .ok (.ldc 149, 2) := by decide +kernel
theorem dX8_send_42 : decode cX8_send 42 = .ok (.invokespecial 57, 3) := by decide +kernel
theorem dX8_send_45 : decode cX8_send 45 = .ok (.athrow, 1) := by decide +kernel
theorem dX8_send_46 : decode cX8_send 46 = .ok (.iload_n 3, 1) := by decide +kernel
theorem dX8_send_47 : decode cX8_send 47 = .ok (.iconst 1, 1) := by decide +kernel
theorem dX8_send_48 : decode cX8_send 48 = .ok (.bipush 99, 2) := by decide +kernel
theorem dX8_send_50 : decode cX8_send 50 = .ok (.invokestatic 21, 3) := by decide +kernel
theorem dX8_send_53 : decode cX8_send 53 = .ok (.iload 4, 2) := by decide +kernel
theorem dX8_send_55 : decode cX8_send 55 = .ok (.iconst 0, 1) := by decide +kernel
theorem dX8_send_56 : decode cX8_send 56 = .ok (.bipush 99, 2) := by decide +kernel
theorem dX8_send_58 : decode cX8_send 58 = .ok (.invokestatic 21, 3) := by decide +kernel
theorem dX8_send_61 : decode cX8_send 61 = .ok (.iload_n 2, 1) := by decide +kernel
theorem dX8_send_62 : decode cX8_send 62 = .ok (.iload 5, 2) := by decide +kernel
theorem dX8_send_64 : decode cX8_send 64 = .ok (.ifCond .eq 16, 3) := by decide +kernel
theorem dX8_send_67 : decode cX8_send 67 = .ok (.aload_n 0, 1) := by decide +kernel
theorem dX8_send_68 : decode cX8_send 68 = .ok (.getfield 14, 3) := by decide +kernel
theorem dX8_send_71 : decode cX8_send 71 = .ok (.getfield 87, 3) := by decide +kernel
theorem dX8_send_74 : decode cX8_send 74 = .ok (.getfield 99, 3) := by decide +kernel
theorem dX8_send_77 : decode cX8_send 77 = .ok (.goto 13, 3) := by decide +kernel
theorem dX8_send_80 : decode cX8_send 80 = .ok (.aload_n 0, 1) := by decide +kernel
theorem dX8_send_81 : decode cX8_send 81 = .ok (.getfield 14, 3) := by decide +kernel
theorem dX8_send_84 : decode cX8_send 84 = .ok (.getfield 58, 3) := by decide +kernel
theorem dX8_send_87 : decode cX8_send 87 = .ok (.getfield 70, 3) := by decide +kernel
theorem dX8_send_90 : decode cX8_send 90 = .ok (.invokestatic 73, 3) := by decide +kernel
theorem dX8_send_93 : decode cX8_send 93 = .ok (.aload_n 0, 1) := by decide +kernel
theorem dX8_send_94 : decode cX8_send 94 = .ok (.getfield 14, 3) := by decide +kernel
theorem dX8_send_97 : decode cX8_send 97 = .ok (.getfield 151, 3) := by decide +kernel
theorem dX8_send_100 : decode cX8_send 100 = .ok (.invokevirtual 155, 3) := by decide +kernel
theorem dX8_send_103 : decode cX8_send 103 = .ok (.ifCond .eq 13, 3) := by decide +kernel
theorem dX8_send_106 : decode cX8_send 106 = .ok (.new 35, 3) := by decide +kernel
theorem dX8_send_109 : decode cX8_send 109 = .ok (.dup, 1) := by decide +kernel
theorem dX8_send_110 : decode cX8_send 110 = .ok (.ldc 158, 2) := by decide +kernel
theorem dX8_send_112 : decode cX8_send 112 = .ok (.invokespecial 39, 3) := by decide +kernel
theorem dX8_send_115 : decode cX8_send 115 = .ok (.athrow, 1) := by decide +kernel
theorem dX8_send_116 : decode cX8_send 116 = .ok (.aload_n 0, 1) := by decide +kernel
theorem dX8_send_117 : decode cX8_send 117 = .ok (.getfield 14, 3) := by decide +kernel
theorem dX8_send_120 : decode cX8_send 120 = .ok (.getfield 100, 3) := by decide +kernel
theorem dX8_send_123 : decode cX8_send 123 = .ok (.ifCond .eq 13, 3) := by decide +kernel
theorem dX8_send_126 : decode cX8_send 126 = .ok (.new 108, 3) := by decide +kernel
theorem dX8_send_129 : decode cX8_send 129 = .ok (.dup, 1) := by decide +kernel
theorem dX8_send_130 : decode cX8_send 130 = .ok (.ldc 160, 2) := by decide +kernel
theorem dX8_send_132 : decode cX8_send 132 = .ok (.invokespecial 112, 3) := by decide +kernel
theorem dX8_send_135 : decode cX8_send 135 = .ok (.athrow, 1) := by decide +kernel
theorem dX8_send_136 : decode cX8_send 136 = .ok (.aload_n 0, 1) := by decide +kernel
theorem dX8_send_137 : decode cX8_send 137 = .ok (.getfield 14, 3) := by decide +kernel
theorem dX8_send_140 : decode cX8_send 140 = .ok (.getfield 151, 3) := by decide +kernel
theorem dX8_send_143 : decode cX8_send 143 = .ok (.iload_n 1, 1) := by decide +kernel
theorem dX8_send_144 : decode cX8_send 144 = .ok (.iload_n 2, 1) := by decide +kernel
theorem dX8_send_145 : decode cX8_send 145 = .ok (.aload_n 0, 1) := by decide +kernel
theorem dX8_send_146 : decode cX8_send 146 = .ok (.getfield 14, 3) := by decide +kernel
theorem dX8_send_149 : decode cX8_send 149 = .ok (.getfield 162, 3) := by decide +kernel
theorem dX8_send_152 : decode cX8_send 152 = .ok (.iload_n 3, 1) := by decide +kernel
theorem dX8_send_153 : decode cX8_send 153 = .ok (.iadd, 1) := by decide +kernel
theorem dX8_send_154 : decode cX8_send 154 = .ok (.iload 4, 2) := by decide +kernel
theorem dX8_send_156 : decode cX8_send 156 = .ok (.invokevirtual 165, 3) := by decide +kernel
theorem dX8_send_159 : decode cX8_send 159 = .ok (.ireturn, 1) := by decide +kernel
set_option maxRecDepth 20000 in
theorem ggX8_approach_X8_requireRange : GoodIn wsX8_approach wsX8_requireRange := goodIn_ca (goodIn_r _ [8, 9, 10] (by decide +kernel) (by decide +kernel)) (goodIn_sub (fun _ h => List.mem_cons_of_mem _ (List.mem_append_left _ (List.mem_append_right _ h))) (by decide +kernel))
set_option maxRecDepth 20000 in
theorem gX8_approach_X8_requireRange : GoodIn wsX8_approach (va_wsS RX8 21 yX8_requireRange wsX8_requireRange) := goodIn_app (goodIn_of _ (by decide +kernel)) ggX8_approach_X8_requireRange
set_option maxRecDepth 20000 in
theorem ggX8_approach_X6_isFull : GoodIn wsX8_approach wsX6_isFull := goodIn_r _ [15, 16, 40, 41, 42, 43, 44, 45] (by decide +kernel) (by decide +kernel)
set_option maxRecDepth 20000 in
theorem gX8_approach_X6_isFull : GoodIn wsX8_approach (wsV RX8 172 RX6 yX6_isFull wsX6_isFull) := goodIn_app (goodIn_of _ (by decide +kernel)) ggX8_approach_X6_isFull
set_option maxRecDepth 20000 in
theorem ggX8_approach_X6_add : GoodIn wsX8_approach wsX6_add := goodIn_ca (goodIn_r _ [20, 21, 16, 22, 23, 40, 41, 42, 43, 44, 45] (by decide +kernel) (by decide +kernel)) (goodIn_sub (fun _ h => List.mem_cons_of_mem _ (List.mem_append_right _ h)) (by decide +kernel))
set_option maxRecDepth 20000 in
theorem gX8_approach_X6_add : GoodIn wsX8_approach (wsV RX8 177 RX6 yX6_add wsX6_add) := goodIn_app (goodIn_of _ (by decide +kernel)) ggX8_approach_X6_add
theorem dX8_approach_0 : decode cX8_approach 0 = .ok (.iload_n 1, 1) := by decide +kernel
theorem dX8_approach_1 : decode cX8_approach 1 = .ok (.iconst 1, 1) := by decide +kernel
theorem dX8_approach_2 : decode cX8_approach 2 = .ok (.sipush 500, 3) := by decide +kernel
theorem dX8_approach_5 : decode cX8_approach 5 = .ok (.invokestatic 21, 3) := by decide +kernel
theorem dX8_approach_8 : decode cX8_approach 8 = .ok (.iload_n 2, 1) := by decide +kernel
theorem dX8_approach_9 : decode cX8_approach 9 = .ok (.iconst 0, 1) := by decide +kernel
theorem dX8_approach_10 : decode cX8_approach 10 = .ok (.bipush 99, 2) := by decide +kernel
theorem dX8_approach_12 : decode cX8_approach 12 = .ok (.invokestatic 21, 3) := by decide +kernel
theorem dX8_approach_15 : decode cX8_approach 15 = .ok (.aload_n 0, 1) := by decide +kernel
theorem dX8_approach_16 : decode cX8_approach 16 = .ok (.getfield 14, 3) := by decide +kernel
theorem dX8_approach_19 : decode cX8_approach 19 = .ok (.getfield 168, 3) := by decide +kernel
theorem dX8_approach_22 : decode cX8_approach 22 = .ok (.invokevirtual 172, 3) := by decide +kernel
theorem dX8_approach_25 : decode cX8_approach 25 = .ok (.ifCond .eq 13, 3) := by decide +kernel
theorem dX8_approach_28 : decode cX8_approach 28 = .ok (.new 35, 3) := by decide +kernel
theorem dX8_approach_31 : decode cX8_approach 31 = .ok (.dup, 1) := by decide +kernel
theorem dX8_approach_32 : decode cX8_approach 32 = .ok (.ldc 175, 2) := by decide +kernel
theorem dX8_approach_34 : decode cX8_approach 34 = .ok (.invokespecial 39, 3) := by decide +kernel
theorem dX8_approach_37 : decode cX8_approach 37 = .ok (.athrow, 1) := by decide +kernel
theorem dX8_approach_38 : decode cX8_approach 38 = .ok (.aload_n 0, 1) := by decide +kernel
theorem dX8_approach_39 : decode cX8_approach 39 = .ok (.getfield 14, 3) := by decide +kernel
theorem dX8_approach_42 : decode cX8_approach 42 = .ok (.getfield 168, 3) := by decide +kernel
theorem dX8_approach_45 : decode cX8_approach 45 = .ok (.iload_n 1, 1) := by decide +kernel
theorem dX8_approach_46 : decode cX8_approach 46 = .ok (.iload_n 2, 1) := by decide +kernel
theorem dX8_approach_47 : decode cX8_approach 47 = .ok (.invokevirtual 177, 3) := by decide +kernel
theorem dX8_approach_50 : decode cX8_approach 50 = .ok (.ireturn, 1) := by decide +kernel
set_option maxRecDepth 20000 in
theorem ggX8_burn_X8_requireIndex : GoodIn wsX8_burn wsX8_requireIndex := goodIn_ca (goodIn_r _ [18, 19, 20] (by decide +kernel) (by decide +kernel)) (goodIn_sub (fun _ h => List.mem_cons_of_mem _ (List.mem_append_left _ (List.mem_append_right _ h))) (by decide +kernel))
set_option maxRecDepth 20000 in
theorem gX8_burn_X8_requireIndex : GoodIn wsX8_burn (va_wsS RX8 73 yX8_requireIndex wsX8_requireIndex) := goodIn_app (goodIn_of _ (by decide +kernel)) ggX8_burn_X8_requireIndex
set_option maxRecDepth 20000 in
theorem ggX8_burn_X8_requireRange : GoodIn wsX8_burn wsX8_requireRange := goodIn_ca (goodIn_r _ [23, 24, 25] (by decide +kernel) (by decide +kernel)) (goodIn_sub (fun _ h => List.mem_cons_of_mem _ (List.mem_append_right _ h)) (by decide +kernel))
set_option maxRecDepth 20000 in
theorem gX8_burn_X8_requireRange : GoodIn wsX8_burn (va_wsS RX8 21 yX8_requireRange wsX8_requireRange) := goodIn_app (goodIn_of _ (by decide +kernel)) ggX8_burn_X8_requireRange
theorem dX8_burn_0 : decode cX8_burn 0 = .ok (.iload_n 1, 1) := by decide +kernel
theorem dX8_burn_1 : decode cX8_burn 1 = .ok (.aload_n 0, 1) := by decide +kernel
theorem dX8_burn_2 : decode cX8_burn 2 = .ok (.getfield 14, 3) := by decide +kernel
theorem dX8_burn_5 : decode cX8_burn 5 = .ok (.getfield 168, 3) := by decide +kernel
theorem dX8_burn_8 : decode cX8_burn 8 = .ok (.getfield 178, 3) := by decide +kernel
theorem dX8_burn_11 : decode cX8_burn 11 = .ok (.invokestatic 73, 3) := by decide +kernel
theorem dX8_burn_14 : decode cX8_burn 14 = .ok (.iload_n 2, 1) := by decide +kernel
theorem dX8_burn_15 : decode cX8_burn 15 = .ok (.bipush (-9), 2) := by decide +kernel
theorem dX8_burn_17 : decode cX8_burn 17 = .ok (.bipush 9, 2) := by decide +kernel
theorem dX8_burn_19 : decode cX8_burn 19 = .ok (.invokestatic 21, 3) := by decide +kernel
theorem dX8_burn_22 : decode cX8_burn 22 = .ok (.aload_n 0, 1) := by decide +kernel
theorem dX8_burn_23 : decode cX8_burn 23 = .ok (.getfield 14, 3) := by decide +kernel
theorem dX8_burn_26 : decode cX8_burn 26 = .ok (.getfield 168, 3) := by decide +kernel
theorem dX8_burn_29 : decode cX8_burn 29 = .ok (.getfield 179, 3) := by decide +kernel
theorem dX8_burn_32 : decode cX8_burn 32 = .ok (.iload_n 1, 1) := by decide +kernel
theorem dX8_burn_33 : decode cX8_burn 33 = .ok (.baload, 1) := by decide +kernel
theorem dX8_burn_34 : decode cX8_burn 34 = .ok (.ifCond .eq 13, 3) := by decide +kernel
theorem dX8_burn_37 : decode cX8_burn 37 = .ok (.new 35, 3) := by decide +kernel
theorem dX8_burn_40 : decode cX8_burn 40 = .ok (.dup, 1) := by decide +kernel
theorem dX8_burn_41 : decode cX8_burn 41 = .ok (.ldc 182, 2) := by decide +kernel
theorem dX8_burn_43 : decode cX8_burn 43 = .ok (.invokespecial 39, 3) := by decide +kernel
theorem dX8_burn_46 : decode cX8_burn 46 = .ok (.athrow, 1) := by decide +kernel
theorem dX8_burn_47 : decode cX8_burn 47 = .ok (.iload_n 2, 1) := by decide +kernel
theorem dX8_burn_48 : decode cX8_burn 48 = .ok (.invokestatic 184, 3) := by decide +kernel
theorem dX8_burn_51 : decode cX8_burn 51 = .ok (.istore_n 3, 1) := by decide +kernel
theorem dX8_burn_52 : decode cX8_burn 52 = .ok (.iload_n 3, 1) := by decide +kernel
theorem dX8_burn_53 : decode cX8_burn 53 = .ok (.aload_n 0, 1) := by decide +kernel
theorem dX8_burn_54 : decode cX8_burn 54 = .ok (.getfield 14, 3) := by decide +kernel
theorem dX8_burn_57 : decode cX8_burn 57 = .ok (.getfield 168, 3) := by decide +kernel
theorem dX8_burn_60 : decode cX8_burn 60 = .ok (.getfield 189, 3) := by decide +kernel
theorem dX8_burn_63 : decode cX8_burn 63 = .ok (.iload_n 1, 1) := by decide +kernel
theorem dX8_burn_64 : decode cX8_burn 64 = .ok (.iaload, 1) := by decide +kernel
theorem dX8_burn_65 : decode cX8_burn 65 = .ok (.if_icmp .le 13, 3) := by decide +kernel
theorem dX8_burn_68 : decode cX8_burn 68 = .ok (.new 108, 3) := by decide +kernel
theorem dX8_burn_71 : decode cX8_burn 71 = .ok (.dup, 1) := by decide +kernel
theorem dX8_burn_72 : decode cX8_burn 72 = .ok (.ldc 192, 2) := by decide +kernel
theorem dX8_burn_74 : decode cX8_burn 74 = .ok (.invokespecial 112, 3) := by decide +kernel
theorem dX8_burn_77 : decode cX8_burn 77 = .ok (.athrow, 1) := by decide +kernel
theorem dX8_burn_78 : decode cX8_burn 78 = .ok (.aload_n 0, 1) := by decide +kernel
theorem dX8_burn_79 : decode cX8_burn 79 = .ok (.getfield 14, 3) := by decide +kernel
theorem dX8_burn_82 : decode cX8_burn 82 = .ok (.getfield 168, 3) := by decide +kernel
theorem dX8_burn_85 : decode cX8_burn 85 = .ok (.getfield 194, 3) := by decide +kernel
theorem dX8_burn_88 : decode cX8_burn 88 = .ok (.iload_n 1, 1) := by decide +kernel
theorem dX8_burn_89 : decode cX8_burn 89 = .ok (.dup2, 1) := by decide +kernel
theorem dX8_burn_90 : decode cX8_burn 90 = .ok (.iaload, 1) := by decide +kernel
theorem dX8_burn_91 : decode cX8_burn 91 = .ok (.iload_n 2, 1) := by decide +kernel
theorem dX8_burn_92 : decode cX8_burn 92 = .ok (.iadd, 1) := by decide +kernel
theorem dX8_burn_93 : decode cX8_burn 93 = .ok (.iastore, 1) := by decide +kernel
theorem dX8_burn_94 : decode cX8_burn 94 = .ok (.aload_n 0, 1) := by decide +kernel
theorem dX8_burn_95 : decode cX8_burn 95 = .ok (.getfield 14, 3) := by decide +kernel
theorem dX8_burn_98 : decode cX8_burn 98 = .ok (.getfield 168, 3) := by decide +kernel
theorem dX8_burn_101 : decode cX8_burn 101 = .ok (.getfield 189, 3) := by decide +kernel
theorem dX8_burn_104 : decode cX8_burn 104 = .ok (.iload_n 1, 1) := by decide +kernel
theorem dX8_burn_105 : decode cX8_burn 105 = .ok (.dup2, 1) := by decide +kernel
theorem dX8_burn_106 : decode cX8_burn 106 = .ok (.iaload, 1) := by decide +kernel
theorem dX8_burn_107 : decode cX8_burn 107 = .ok (.iload_n 3, 1) := by decide +kernel
theorem dX8_burn_108 : decode cX8_burn 108 = .ok (.isub, 1) := by decide +kernel
theorem dX8_burn_109 : decode cX8_burn 109 = .ok (.iastore, 1) := by decide +kernel
theorem dX8_burn_110 : decode cX8_burn 110 = .ok (.aload_n 0, 1) := by decide +kernel
theorem dX8_burn_111 : decode cX8_burn 111 = .ok (.getfield 14, 3) := by decide +kernel
theorem dX8_burn_114 : decode cX8_burn 114 = .ok (.getfield 168, 3) := by decide +kernel
theorem dX8_burn_117 : decode cX8_burn 117 = .ok (.getfield 189, 3) := by decide +kernel
theorem dX8_burn_120 : decode cX8_burn 120 = .ok (.iload_n 1, 1) := by decide +kernel
theorem dX8_burn_121 : decode cX8_burn 121 = .ok (.iaload, 1) := by decide +kernel
theorem dX8_burn_122 : decode cX8_burn 122 = .ok (.ireturn, 1) := by decide +kernel
set_option maxRecDepth 20000 in
theorem ggX8_pass_X8_requireRange : GoodIn wsX8_pass wsX8_requireRange := goodIn_ca (goodIn_r _ [8, 9, 10] (by decide +kernel) (by decide +kernel)) (goodIn_sub (fun _ h => List.mem_cons_of_mem _ (List.mem_append_left _ (List.mem_append_right _ h))) (by decide +kernel))
set_option maxRecDepth 20000 in
theorem gX8_pass_X8_requireRange : GoodIn wsX8_pass (va_wsS RX8 21 yX8_requireRange wsX8_requireRange) := goodIn_app (goodIn_of _ (by decide +kernel)) ggX8_pass_X8_requireRange
set_option maxRecDepth 20000 in
theorem ggX8_pass_X7_passMinute : GoodIn wsX8_pass wsX7_passMinute := goodIn_ca (goodIn_r _ [15, 16, 17, 18, 19, 20, 21, 22, 23, 24, 14, 25, 26, 27, 28, 29, 30, 31, 32, 33, 34, 35, 36, 37, 38, 39, 40, 41, 42, 43, 44, 45, 46, 47, 48, 49, 50, 51, 52, 53, 54, 55, 56, 57, 58, 59, 60, 61, 62, 63, 64, 65, 66, 67, 68, 69, 70, 71, 72, 73, 74, 75, 76, 77, 78, 79, 80, 81, 82, 83, 84, 85, 86, 87, 88, 89, 90, 91, 92, 93, 94, 95, 96, 97, 98, 99, 100, 101, 102, 103, 104, 105, 106, 107, 108, 109, 110, 111, 112, 113, 114, 115, 116, 117, 118, 119, 120, 121, 122, 123, 124, 125, 126, 127, 128, 129, 130, 131, 132, 133, 134, 135, 136, 137, 138, 139, 140, 141, 142, 143, 144, 145, 146, 147, 148, 149, 150, 151, 152, 153, 154, 155, 156, 157, 158, 159, 160, 161, 162, 163, 164, 165, 166, 167, 168, 169, 170, 171, 172, 173, 174, 175, 176, 177, 178, 179, 180, 181, 182, 183, 184, 185, 186, 187, 188, 189, 190, 191, 192, 193, 194, 195, 196, 199, 200, 201, 202, 203, 204, 205, 206, 207, 208, 209, 210, 211, 212, 213, 214, 215, 216, 217, 218, 219, 220, 221, 222, 223, 224, 225, 226, 227, 228, 229, 230, 231, 232, 233, 234, 235, 236, 237, 238, 239, 240, 241, 242, 243, 244, 245] (by decide +kernel) (by decide +kernel)) (goodIn_sub (fun _ h => List.mem_cons_of_mem _ (List.mem_append_right _ h)) (by decide +kernel))
set_option maxRecDepth 20000 in
theorem gX8_pass_X7_passMinute : GoodIn wsX8_pass (wsV RX8 202 RX7 yX7_passMinute wsX7_passMinute) := goodIn_app (goodIn_of _ (by decide +kernel)) ggX8_pass_X7_passMinute
theorem dX8_pass_0 : decode cX8_pass 0 = .ok (.iload_n 1, 1) := by decide +kernel
theorem dX8_pass_1 : decode cX8_pass 1 = .ok (.iconst 1, 1) := by decide +kernel
theorem dX8_pass_2 : decode cX8_pass 2 = .ok (.bipush 90, 2) := by decide +kernel
theorem dX8_pass_4 : decode cX8_pass 4 = .ok (.invokestatic 21, 3) := by decide +kernel
theorem dX8_pass_7 : decode cX8_pass 7 = .ok (.aload_n 0, 1) := by decide +kernel
theorem dX8_pass_8 : decode cX8_pass 8 = .ok (.getfield 14, 3) := by decide +kernel
theorem dX8_pass_11 : decode cX8_pass 11 = .ok (.getfield 162, 3) := by decide +kernel
theorem dX8_pass_14 : decode cX8_pass 14 = .ok (.iload_n 1, 1) := by decide +kernel
theorem dX8_pass_15 : decode cX8_pass 15 = .ok (.iadd, 1) := by decide +kernel
theorem dX8_pass_16 : decode cX8_pass 16 = .ok (.sipush 9999, 3) := by decide +kernel
theorem dX8_pass_19 : decode cX8_pass 19 = .ok (.if_icmp .le 13, 3) := by decide +kernel
theorem dX8_pass_22 : decode cX8_pass 22 = .ok (.new 197, 3) := by decide +kernel
theorem dX8_pass_25 : decode cX8_pass 25 = .ok (.dup, 1) := by decide +kernel
theorem dX8_pass_26 : decode cX8_pass 26 = .ok (.ldc 199, 2) := by decide +kernel
theorem dX8_pass_28 : decode cX8_pass 28 = .ok (.invokespecial 201, 3) := by decide +kernel
theorem dX8_pass_31 : decode cX8_pass 31 = .ok (.athrow, 1) := by decide +kernel
theorem dX8_pass_32 : decode cX8_pass 32 = .ok (.iconst 0, 1) := by decide +kernel
theorem dX8_pass_33 : decode cX8_pass 33 = .ok (.istore_n 2, 1) := by decide +kernel
theorem dX8_pass_34 : decode cX8_pass 34 = .ok (.iload_n 2, 1) := by decide +kernel
theorem dX8_pass_35 : decode cX8_pass 35 = .ok (.iload_n 1, 1) := by decide +kernel
theorem dX8_pass_36 : decode cX8_pass 36 = .ok (.if_icmp .ge 16, 3) := by decide +kernel
theorem dX8_pass_39 : decode cX8_pass 39 = .ok (.aload_n 0, 1) := by decide +kernel
theorem dX8_pass_40 : decode cX8_pass 40 = .ok (.getfield 14, 3) := by decide +kernel
theorem dX8_pass_43 : decode cX8_pass 43 = .ok (.invokevirtual 202, 3) := by decide +kernel
theorem dX8_pass_46 : decode cX8_pass 46 = .ok (.iinc 2 1, 3) := by decide +kernel
theorem dX8_pass_49 : decode cX8_pass 49 = .ok (.goto (-15), 3) := by decide +kernel
theorem dX8_pass_52 : decode cX8_pass 52 = .ok (.aload_n 0, 1) := by decide +kernel
theorem dX8_pass_53 : decode cX8_pass 53 = .ok (.getfield 14, 3) := by decide +kernel
theorem dX8_pass_56 : decode cX8_pass 56 = .ok (.getfield 162, 3) := by decide +kernel
theorem dX8_pass_59 : decode cX8_pass 59 = .ok (.ireturn, 1) := by decide +kernel
theorem dX8_endSafe_0 : decode cX8_endSafe 0 = .ok (.aload_n 0, 1) := by decide +kernel
theorem dX8_endSafe_1 : decode cX8_endSafe 1 = .ok (.getfield 14, 3) := by decide +kernel
theorem dX8_endSafe_4 : decode cX8_endSafe 4 = .ok (.getfield 100, 3) := by decide +kernel
theorem dX8_endSafe_7 : decode cX8_endSafe 7 = .ok (.istore_n 1, 1) := by decide +kernel
theorem dX8_endSafe_8 : decode cX8_endSafe 8 = .ok (.aload_n 0, 1) := by decide +kernel
theorem dX8_endSafe_9 : decode cX8_endSafe 9 = .ok (.getfield 14, 3) := by decide +kernel
theorem dX8_endSafe_12 : decode cX8_endSafe 12 = .ok (.iconst 0, 1) := by decide +kernel
theorem dX8_endSafe_13 : decode cX8_endSafe 13 = .ok (.putfield 100, 3) := by decide +kernel
theorem dX8_endSafe_16 : decode cX8_endSafe 16 = .ok (.iload_n 1, 1) := by decide +kernel
theorem dX8_endSafe_17 : decode cX8_endSafe 17 = .ok (.ireturn, 1) := by decide +kernel
set_option maxRecDepth 20000 in
theorem ggX8_oxygen_X8_requireRoom : GoodIn wsX8_oxygen wsX8_requireRoom := goodIn_ca (goodIn_r _ [8, 1, 2, 9, 10, 11, 7, 12, 13, 14, 15, 16, 17, 18, 19, 20, 21, 22, 23, 24, 25, 26, 27, 28, 29, 30, 31, 32, 33, 34, 35] (by decide +kernel) (by decide +kernel)) (goodIn_sub (fun _ h => List.mem_cons_of_mem _ (List.mem_append_right _ h)) (by decide +kernel))
set_option maxRecDepth 20000 in
theorem gX8_oxygen_X8_requireRoom : GoodIn wsX8_oxygen (wsV RX8 50 RX8 yX8_requireRoom wsX8_requireRoom) := goodIn_app (goodIn_of _ (by decide +kernel)) ggX8_oxygen_X8_requireRoom
theorem dX8_oxygen_0 : decode cX8_oxygen 0 = .ok (.aload_n 0, 1) := by decide +kernel
theorem dX8_oxygen_1 : decode cX8_oxygen 1 = .ok (.iload_n 1, 1) := by decide +kernel
theorem dX8_oxygen_2 : decode cX8_oxygen 2 = .ok (.invokevirtual 50, 3) := by decide +kernel
theorem dX8_oxygen_5 : decode cX8_oxygen 5 = .ok (.aload_n 0, 1) := by decide +kernel
theorem dX8_oxygen_6 : decode cX8_oxygen 6 = .ok (.getfield 14, 3) := by decide +kernel
theorem dX8_oxygen_9 : decode cX8_oxygen 9 = .ok (.getfield 25, 3) := by decide +kernel
theorem dX8_oxygen_12 : decode cX8_oxygen 12 = .ok (.getfield 205, 3) := by decide +kernel
theorem dX8_oxygen_15 : decode cX8_oxygen 15 = .ok (.iload_n 1, 1) := by decide +kernel
theorem dX8_oxygen_16 : decode cX8_oxygen 16 = .ok (.iaload, 1) := by decide +kernel
theorem dX8_oxygen_17 : decode cX8_oxygen 17 = .ok (.ireturn, 1) := by decide +kernel
set_option maxRecDepth 20000 in
theorem ggX8_carbon_X8_requireRoom : GoodIn wsX8_carbon wsX8_requireRoom := goodIn_ca (goodIn_r _ [8, 1, 2, 9, 10, 11, 7, 12, 13, 14, 15, 16, 17, 18, 19, 20, 21, 22, 23, 24, 25, 26, 27, 28, 29, 30, 31, 32, 33, 34, 35] (by decide +kernel) (by decide +kernel)) (goodIn_sub (fun _ h => List.mem_cons_of_mem _ (List.mem_append_right _ h)) (by decide +kernel))
set_option maxRecDepth 20000 in
theorem gX8_carbon_X8_requireRoom : GoodIn wsX8_carbon (wsV RX8 50 RX8 yX8_requireRoom wsX8_requireRoom) := goodIn_app (goodIn_of _ (by decide +kernel)) ggX8_carbon_X8_requireRoom
theorem dX8_carbon_0 : decode cX8_carbon 0 = .ok (.aload_n 0, 1) := by decide +kernel
theorem dX8_carbon_1 : decode cX8_carbon 1 = .ok (.iload_n 1, 1) := by decide +kernel
theorem dX8_carbon_2 : decode cX8_carbon 2 = .ok (.invokevirtual 50, 3) := by decide +kernel
theorem dX8_carbon_5 : decode cX8_carbon 5 = .ok (.aload_n 0, 1) := by decide +kernel
theorem dX8_carbon_6 : decode cX8_carbon 6 = .ok (.getfield 14, 3) := by decide +kernel
theorem dX8_carbon_9 : decode cX8_carbon 9 = .ok (.getfield 25, 3) := by decide +kernel
theorem dX8_carbon_12 : decode cX8_carbon 12 = .ok (.getfield 208, 3) := by decide +kernel
theorem dX8_carbon_15 : decode cX8_carbon 15 = .ok (.iload_n 1, 1) := by decide +kernel
theorem dX8_carbon_16 : decode cX8_carbon 16 = .ok (.iaload, 1) := by decide +kernel
theorem dX8_carbon_17 : decode cX8_carbon 17 = .ok (.ireturn, 1) := by decide +kernel
theorem dX8_water_0 : decode cX8_water 0 = .ok (.aload_n 0, 1) := by decide +kernel
theorem dX8_water_1 : decode cX8_water 1 = .ok (.getfield 14, 3) := by decide +kernel
theorem dX8_water_4 : decode cX8_water 4 = .ok (.getfield 211, 3) := by decide +kernel
theorem dX8_water_7 : decode cX8_water 7 = .ok (.ireturn, 1) := by decide +kernel
theorem dX8_battery_0 : decode cX8_battery 0 = .ok (.aload_n 0, 1) := by decide +kernel
theorem dX8_battery_1 : decode cX8_battery 1 = .ok (.getfield 14, 3) := by decide +kernel
theorem dX8_battery_4 : decode cX8_battery 4 = .ok (.getfield 214, 3) := by decide +kernel
theorem dX8_battery_7 : decode cX8_battery 7 = .ok (.ireturn, 1) := by decide +kernel
set_option maxRecDepth 20000 in
theorem ggX8_whereIs_X8_requireIndex : GoodIn wsX8_whereIs wsX8_requireIndex := goodIn_ca (goodIn_r _ [9, 10, 11] (by decide +kernel) (by decide +kernel)) (goodIn_sub (fun _ h => List.mem_cons_of_mem _ (List.mem_append_right _ h)) (by decide +kernel))
set_option maxRecDepth 20000 in
theorem gX8_whereIs_X8_requireIndex : GoodIn wsX8_whereIs (va_wsS RX8 73 yX8_requireIndex wsX8_requireIndex) := goodIn_app (goodIn_of _ (by decide +kernel)) ggX8_whereIs_X8_requireIndex
theorem dX8_whereIs_0 : decode cX8_whereIs 0 = .ok (.iload_n 1, 1) := by decide +kernel
theorem dX8_whereIs_1 : decode cX8_whereIs 1 = .ok (.aload_n 0, 1) := by decide +kernel
theorem dX8_whereIs_2 : decode cX8_whereIs 2 = .ok (.getfield 14, 3) := by decide +kernel
theorem dX8_whereIs_5 : decode cX8_whereIs 5 = .ok (.getfield 119, 3) := by decide +kernel
theorem dX8_whereIs_8 : decode cX8_whereIs 8 = .ok (.getfield 129, 3) := by decide +kernel
theorem dX8_whereIs_11 : decode cX8_whereIs 11 = .ok (.invokestatic 73, 3) := by decide +kernel
theorem dX8_whereIs_14 : decode cX8_whereIs 14 = .ok (.aload_n 0, 1) := by decide +kernel
theorem dX8_whereIs_15 : decode cX8_whereIs 15 = .ok (.getfield 14, 3) := by decide +kernel
theorem dX8_whereIs_18 : decode cX8_whereIs 18 = .ok (.getfield 119, 3) := by decide +kernel
theorem dX8_whereIs_21 : decode cX8_whereIs 21 = .ok (.getfield 217, 3) := by decide +kernel
theorem dX8_whereIs_24 : decode cX8_whereIs 24 = .ok (.iload_n 1, 1) := by decide +kernel
theorem dX8_whereIs_25 : decode cX8_whereIs 25 = .ok (.baload, 1) := by decide +kernel
theorem dX8_whereIs_26 : decode cX8_whereIs 26 = .ok (.ifCond .eq 7, 3) := by decide +kernel
theorem dX8_whereIs_29 : decode cX8_whereIs 29 = .ok (.iconst (-1), 1) := by decide +kernel
theorem dX8_whereIs_30 : decode cX8_whereIs 30 = .ok (.goto 15, 3) := by decide +kernel
theorem dX8_whereIs_33 : decode cX8_whereIs 33 = .ok (.aload_n 0, 1) := by decide +kernel
theorem dX8_whereIs_34 : decode cX8_whereIs 34 = .ok (.getfield 14, 3) := by decide +kernel
theorem dX8_whereIs_37 : decode cX8_whereIs 37 = .ok (.getfield 119, 3) := by decide +kernel
theorem dX8_whereIs_40 : decode cX8_whereIs 40 = .ok (.getfield 133, 3) := by decide +kernel
theorem dX8_whereIs_43 : decode cX8_whereIs 43 = .ok (.iload_n 1, 1) := by decide +kernel
theorem dX8_whereIs_44 : decode cX8_whereIs 44 = .ok (.iaload, 1) := by decide +kernel
theorem dX8_whereIs_45 : decode cX8_whereIs 45 = .ok (.ireturn, 1) := by decide +kernel
set_option maxRecDepth 20000 in
theorem ggX8_distance_X8_requireIndex : GoodIn wsX8_distance wsX8_requireIndex := goodIn_ca (goodIn_r _ [9, 10, 11] (by decide +kernel) (by decide +kernel)) (goodIn_sub (fun _ h => List.mem_cons_of_mem _ (List.mem_append_right _ h)) (by decide +kernel))
set_option maxRecDepth 20000 in
theorem gX8_distance_X8_requireIndex : GoodIn wsX8_distance (va_wsS RX8 73 yX8_requireIndex wsX8_requireIndex) := goodIn_app (goodIn_of _ (by decide +kernel)) ggX8_distance_X8_requireIndex
theorem dX8_distance_0 : decode cX8_distance 0 = .ok (.iload_n 1, 1) := by decide +kernel
theorem dX8_distance_1 : decode cX8_distance 1 = .ok (.aload_n 0, 1) := by decide +kernel
theorem dX8_distance_2 : decode cX8_distance 2 = .ok (.getfield 14, 3) := by decide +kernel
theorem dX8_distance_5 : decode cX8_distance 5 = .ok (.getfield 168, 3) := by decide +kernel
theorem dX8_distance_8 : decode cX8_distance 8 = .ok (.getfield 178, 3) := by decide +kernel
theorem dX8_distance_11 : decode cX8_distance 11 = .ok (.invokestatic 73, 3) := by decide +kernel
theorem dX8_distance_14 : decode cX8_distance 14 = .ok (.aload_n 0, 1) := by decide +kernel
theorem dX8_distance_15 : decode cX8_distance 15 = .ok (.getfield 14, 3) := by decide +kernel
theorem dX8_distance_18 : decode cX8_distance 18 = .ok (.getfield 168, 3) := by decide +kernel
theorem dX8_distance_21 : decode cX8_distance 21 = .ok (.getfield 179, 3) := by decide +kernel
theorem dX8_distance_24 : decode cX8_distance 24 = .ok (.iload_n 1, 1) := by decide +kernel
theorem dX8_distance_25 : decode cX8_distance 25 = .ok (.baload, 1) := by decide +kernel
theorem dX8_distance_26 : decode cX8_distance 26 = .ok (.ifCond .eq 7, 3) := by decide +kernel
theorem dX8_distance_29 : decode cX8_distance 29 = .ok (.iconst (-1), 1) := by decide +kernel
theorem dX8_distance_30 : decode cX8_distance 30 = .ok (.goto 15, 3) := by decide +kernel
theorem dX8_distance_33 : decode cX8_distance 33 = .ok (.aload_n 0, 1) := by decide +kernel
theorem dX8_distance_34 : decode cX8_distance 34 = .ok (.getfield 14, 3) := by decide +kernel
theorem dX8_distance_37 : decode cX8_distance 37 = .ok (.getfield 168, 3) := by decide +kernel
theorem dX8_distance_40 : decode cX8_distance 40 = .ok (.getfield 220, 3) := by decide +kernel
theorem dX8_distance_43 : decode cX8_distance 43 = .ok (.iload_n 1, 1) := by decide +kernel
theorem dX8_distance_44 : decode cX8_distance 44 = .ok (.iaload, 1) := by decide +kernel
theorem dX8_distance_45 : decode cX8_distance 45 = .ok (.ireturn, 1) := by decide +kernel
set_option maxRecDepth 20000 in
theorem ggX8_isOn_X8_requireIndex : GoodIn wsX8_isOn wsX8_requireIndex := goodIn_ca (goodIn_r _ [8, 9, 10] (by decide +kernel) (by decide +kernel)) (goodIn_sub (fun _ h => List.mem_cons_of_mem _ (List.mem_append_right _ h)) (by decide +kernel))
set_option maxRecDepth 20000 in
theorem gX8_isOn_X8_requireIndex : GoodIn wsX8_isOn (va_wsS RX8 73 yX8_requireIndex wsX8_requireIndex) := goodIn_app (goodIn_of _ (by decide +kernel)) ggX8_isOn_X8_requireIndex
theorem dX8_isOn_0 : decode cX8_isOn 0 = .ok (.iload_n 1, 1) := by decide +kernel
theorem dX8_isOn_1 : decode cX8_isOn 1 = .ok (.aload_n 0, 1) := by decide +kernel
theorem dX8_isOn_2 : decode cX8_isOn 2 = .ok (.getfield 14, 3) := by decide +kernel
theorem dX8_isOn_5 : decode cX8_isOn 5 = .ok (.getfield 87, 3) := by decide +kernel
theorem dX8_isOn_8 : decode cX8_isOn 8 = .ok (.getfield 99, 3) := by decide +kernel
theorem dX8_isOn_11 : decode cX8_isOn 11 = .ok (.invokestatic 73, 3) := by decide +kernel
theorem dX8_isOn_14 : decode cX8_isOn 14 = .ok (.aload_n 0, 1) := by decide +kernel
theorem dX8_isOn_15 : decode cX8_isOn 15 = .ok (.getfield 14, 3) := by decide +kernel
theorem dX8_isOn_18 : decode cX8_isOn 18 = .ok (.getfield 87, 3) := by decide +kernel
theorem dX8_isOn_21 : decode cX8_isOn 21 = .ok (.getfield 113, 3) := by decide +kernel
theorem dX8_isOn_24 : decode cX8_isOn 24 = .ok (.iload_n 1, 1) := by decide +kernel
theorem dX8_isOn_25 : decode cX8_isOn 25 = .ok (.baload, 1) := by decide +kernel
theorem dX8_isOn_26 : decode cX8_isOn 26 = .ok (.ireturn, 1) := by decide +kernel
theorem dX8_isSafe_0 : decode cX8_isSafe 0 = .ok (.aload_n 0, 1) := by decide +kernel
theorem dX8_isSafe_1 : decode cX8_isSafe 1 = .ok (.getfield 14, 3) := by decide +kernel
theorem dX8_isSafe_4 : decode cX8_isSafe 4 = .ok (.getfield 100, 3) := by decide +kernel
theorem dX8_isSafe_7 : decode cX8_isSafe 7 = .ok (.ireturn, 1) := by decide +kernel
theorem dX8_events_0 : decode cX8_events 0 = .ok (.aload_n 0, 1) := by decide +kernel
theorem dX8_events_1 : decode cX8_events 1 = .ok (.getfield 14, 3) := by decide +kernel
theorem dX8_events_4 : decode cX8_events 4 = .ok (.getfield 223, 3) := by decide +kernel
theorem dX8_events_7 : decode cX8_events 7 = .ok (.getfield 227, 3) := by decide +kernel
theorem dX8_events_10 : decode cX8_events 10 = .ok (.ireturn, 1) := by decide +kernel
set_option maxRecDepth 20000 in
theorem ggX8_eventAt_X8_requireIndex : GoodIn wsX8_eventAt wsX8_requireIndex := goodIn_ca (goodIn_r _ [8, 9, 10] (by decide +kernel) (by decide +kernel)) (goodIn_sub (fun _ h => List.mem_cons_of_mem _ (List.mem_append_right _ h)) (by decide +kernel))
set_option maxRecDepth 20000 in
theorem gX8_eventAt_X8_requireIndex : GoodIn wsX8_eventAt (va_wsS RX8 73 yX8_requireIndex wsX8_requireIndex) := goodIn_app (goodIn_of _ (by decide +kernel)) ggX8_eventAt_X8_requireIndex
theorem dX8_eventAt_0 : decode cX8_eventAt 0 = .ok (.iload_n 1, 1) := by decide +kernel
theorem dX8_eventAt_1 : decode cX8_eventAt 1 = .ok (.aload_n 0, 1) := by decide +kernel
theorem dX8_eventAt_2 : decode cX8_eventAt 2 = .ok (.getfield 14, 3) := by decide +kernel
theorem dX8_eventAt_5 : decode cX8_eventAt 5 = .ok (.getfield 223, 3) := by decide +kernel
theorem dX8_eventAt_8 : decode cX8_eventAt 8 = .ok (.getfield 227, 3) := by decide +kernel
theorem dX8_eventAt_11 : decode cX8_eventAt 11 = .ok (.invokestatic 73, 3) := by decide +kernel
theorem dX8_eventAt_14 : decode cX8_eventAt 14 = .ok (.aload_n 0, 1) := by decide +kernel
theorem dX8_eventAt_15 : decode cX8_eventAt 15 = .ok (.getfield 14, 3) := by decide +kernel
theorem dX8_eventAt_18 : decode cX8_eventAt 18 = .ok (.getfield 223, 3) := by decide +kernel
theorem dX8_eventAt_21 : decode cX8_eventAt 21 = .ok (.getfield 230, 3) := by decide +kernel
theorem dX8_eventAt_24 : decode cX8_eventAt 24 = .ok (.iload_n 1, 1) := by decide +kernel
theorem dX8_eventAt_25 : decode cX8_eventAt 25 = .ok (.caload, 1) := by decide +kernel
theorem dX8_eventAt_26 : decode cX8_eventAt 26 = .ok (.ireturn, 1) := by decide +kernel
set_option maxRecDepth 20000 in
theorem ggX8_timeLeft_X8_minutesToDeath : GoodIn wsX8_timeLeft wsX8_minutesToDeath := goodIn_ca (goodIn_r _ [5, 6, 7, 8, 9, 10, 11, 12, 13, 14, 15, 16, 17, 18, 19, 20, 21, 22, 23, 24, 25, 26, 27, 28, 29, 30, 31, 32, 33, 34, 35, 36, 37, 38, 39, 40, 41, 42, 43, 44, 45, 46, 47, 48, 49, 50, 51, 52, 53, 54, 55, 56, 57, 58, 59, 60, 61, 62, 63, 64, 65, 66, 67, 68, 69, 70, 71, 72, 73, 74, 75, 76, 77, 78, 79, 80, 81, 82, 83, 84, 85, 86, 87, 88, 89, 90, 91, 92, 93, 94, 95, 96, 97, 98, 99, 100, 101, 102, 103, 104, 105, 106, 107, 108, 109, 110, 111, 112, 113, 114, 115, 116, 117, 118, 119, 120, 121, 122, 123, 124, 125, 126, 127, 128, 129, 130, 131, 132, 133, 134, 135, 136, 137, 138, 139, 140, 141, 142, 143, 144, 145, 146, 147, 148, 149, 150, 151, 152, 153, 154, 155, 156, 157, 158, 159, 160, 161, 162, 163, 164, 165, 166, 167, 168, 169, 170, 171, 172, 173, 174, 175, 176, 177, 178, 179, 180, 181, 182, 183, 184, 185, 186, 187, 188, 189, 190, 191, 192, 193, 194, 195, 196, 197, 198, 199, 200, 201, 202, 203, 204, 205, 206, 207, 208, 209, 210, 211, 212, 213, 214, 215, 216, 217, 218, 219, 220, 221, 222, 223, 224, 225, 226, 227, 228, 229, 230, 231, 232, 233, 234, 235, 236, 237, 238, 239, 240, 241, 242, 243, 244, 245, 246, 247, 248, 249, 250, 251, 252, 253, 254, 255, 256, 257, 258, 259, 260, 261, 262, 263, 264, 265, 266, 267, 268, 269, 270, 271, 272, 273, 274, 275, 276, 277, 278, 279, 280, 281, 282, 283, 284] (by decide +kernel) (by decide +kernel)) (goodIn_sub (fun _ h => List.mem_cons_of_mem _ (List.mem_append_right _ h)) (by decide +kernel))
set_option maxRecDepth 20000 in
theorem gX8_timeLeft_X8_minutesToDeath : GoodIn wsX8_timeLeft (wsV RX8 233 RX8 yX8_minutesToDeath wsX8_minutesToDeath) := goodIn_app (goodIn_of _ (by decide +kernel)) ggX8_timeLeft_X8_minutesToDeath
theorem dX8_timeLeft_0 : decode cX8_timeLeft 0 = .ok (.aload_n 0, 1) := by decide +kernel
theorem dX8_timeLeft_1 : decode cX8_timeLeft 1 = .ok (.iconst (-1), 1) := by decide +kernel
theorem dX8_timeLeft_2 : decode cX8_timeLeft 2 = .ok (.sipush 300, 3) := by decide +kernel
theorem dX8_timeLeft_5 : decode cX8_timeLeft 5 = .ok (.invokevirtual 233, 3) := by decide +kernel
theorem dX8_timeLeft_8 : decode cX8_timeLeft 8 = .ok (.ireturn, 1) := by decide +kernel
set_option maxRecDepth 20000 in
theorem ggX8_worst_X8_minutesToDeath : GoodIn wsX8_worst wsX8_minutesToDeath := goodIn_ca (goodIn_r _ [8, 1, 9, 10, 2, 11, 12, 13, 14, 15, 16, 17, 18, 19, 20, 21, 22, 23, 24, 25, 26, 27, 28, 29, 30, 31, 32, 33, 34, 35, 36, 37, 38, 39, 40, 41, 42, 43, 44, 45, 46, 47, 48, 49, 50, 51, 52, 53, 54, 55, 56, 57, 58, 59, 60, 61, 62, 63, 64, 65, 66, 67, 68, 69, 70, 71, 72, 73, 74, 75, 76, 77, 78, 79, 80, 81, 82, 83, 84, 85, 86, 87, 88, 89, 90, 91, 92, 93, 94, 95, 96, 97, 98, 99, 100, 101, 102, 103, 104, 105, 106, 107, 108, 109, 110, 111, 112, 113, 114, 115, 116, 117, 118, 119, 120, 121, 122, 123, 124, 125, 126, 127, 128, 129, 130, 131, 132, 133, 134, 135, 136, 137, 138, 139, 140, 141, 142, 143, 144, 145, 146, 147, 148, 149, 150, 151, 152, 153, 154, 155, 156, 157, 158, 159, 160, 161, 162, 163, 164, 165, 166, 167, 168, 169, 170, 171, 172, 173, 174, 175, 176, 177, 178, 179, 180, 181, 182, 183, 184, 185, 186, 187, 188, 189, 190, 191, 192, 193, 194, 195, 196, 197, 198, 199, 200, 201, 202, 203, 204, 205, 206, 207, 208, 209, 210, 211, 212, 213, 214, 215, 216, 217, 218, 219, 220, 221, 222, 223, 224, 225, 226, 227, 228, 229, 230, 231, 232, 233, 234, 235, 236, 237, 238, 239, 240, 241, 242, 243, 244, 245, 246, 247, 248, 249, 250, 251, 252, 253, 254, 255, 256, 257, 258, 259, 260, 261, 262, 263, 264, 265, 266, 267, 268, 269, 270, 271, 272, 273, 274, 275, 276, 277, 278, 279, 280, 281, 282, 283, 284, 285] (by decide +kernel) (by decide +kernel)) (goodIn_sub (fun _ h => List.mem_cons_of_mem _ (List.mem_append_right _ h)) (by decide +kernel))
set_option maxRecDepth 20000 in
theorem gX8_worst_X8_minutesToDeath : GoodIn wsX8_worst (wsV RX8 233 RX8 yX8_minutesToDeath wsX8_minutesToDeath) := goodIn_app (goodIn_of _ (by decide +kernel)) ggX8_worst_X8_minutesToDeath
theorem dX8_worst_0 : decode cX8_worst 0 = .ok (.aload_n 0, 1) := by decide +kernel
theorem dX8_worst_1 : decode cX8_worst 1 = .ok (.iconst (-1), 1) := by decide +kernel
theorem dX8_worst_2 : decode cX8_worst 2 = .ok (.sipush 300, 3) := by decide +kernel
theorem dX8_worst_5 : decode cX8_worst 5 = .ok (.invokevirtual 233, 3) := by decide +kernel
theorem dX8_worst_8 : decode cX8_worst 8 = .ok (.istore_n 1, 1) := by decide +kernel
theorem dX8_worst_9 : decode cX8_worst 9 = .ok (.iconst 0, 1) := by decide +kernel
theorem dX8_worst_10 : decode cX8_worst 10 = .ok (.istore_n 2, 1) := by decide +kernel
theorem dX8_worst_11 : decode cX8_worst 11 = .ok (.iload_n 2, 1) := by decide +kernel
theorem dX8_worst_12 : decode cX8_worst 12 = .ok (.aload_n 0, 1) := by decide +kernel
theorem dX8_worst_13 : decode cX8_worst 13 = .ok (.getfield 14, 3) := by decide +kernel
theorem dX8_worst_16 : decode cX8_worst 16 = .ok (.getfield 87, 3) := by decide +kernel
theorem dX8_worst_19 : decode cX8_worst 19 = .ok (.getfield 99, 3) := by decide +kernel
theorem dX8_worst_22 : decode cX8_worst 22 = .ok (.if_icmp .ge 16, 3) := by decide +kernel
theorem dX8_worst_25 : decode cX8_worst 25 = .ok (.aload_n 0, 1) := by decide +kernel
theorem dX8_worst_26 : decode cX8_worst 26 = .ok (.iload_n 2, 1) := by decide +kernel
theorem dX8_worst_27 : decode cX8_worst 27 = .ok (.iload_n 1, 1) := by decide +kernel
theorem dX8_worst_28 : decode cX8_worst 28 = .ok (.invokevirtual 233, 3) := by decide +kernel
theorem dX8_worst_31 : decode cX8_worst 31 = .ok (.istore_n 1, 1) := by decide +kernel
theorem dX8_worst_32 : decode cX8_worst 32 = .ok (.iinc 2 1, 3) := by decide +kernel
theorem dX8_worst_35 : decode cX8_worst 35 = .ok (.goto (-24), 3) := by decide +kernel
theorem dX8_worst_38 : decode cX8_worst 38 = .ok (.iload_n 1, 1) := by decide +kernel
theorem dX8_worst_39 : decode cX8_worst 39 = .ok (.ireturn, 1) := by decide +kernel
theorem dX8_checksum_0 : decode cX8_checksum 0 = .ok (.lconst 0, 1) := by decide +kernel
theorem dX8_checksum_1 : decode cX8_checksum 1 = .ok (.lstore_n 1, 1) := by decide +kernel
theorem dX8_checksum_2 : decode cX8_checksum 2 = .ok (.iconst 0, 1) := by decide +kernel
theorem dX8_checksum_3 : decode cX8_checksum 3 = .ok (.istore_n 3, 1) := by decide +kernel
theorem dX8_checksum_4 : decode cX8_checksum 4 = .ok (.iload_n 3, 1) := by decide +kernel
theorem dX8_checksum_5 : decode cX8_checksum 5 = .ok (.aload_n 0, 1) := by decide +kernel
theorem dX8_checksum_6 : decode cX8_checksum 6 = .ok (.getfield 14, 3) := by decide +kernel
theorem dX8_checksum_9 : decode cX8_checksum 9 = .ok (.getfield 25, 3) := by decide +kernel
theorem dX8_checksum_12 : decode cX8_checksum 12 = .ok (.getfield 236, 3) := by decide +kernel
theorem dX8_checksum_15 : decode cX8_checksum 15 = .ok (.if_icmp .ge 47, 3) := by decide +kernel
theorem dX8_checksum_18 : decode cX8_checksum 18 = .ok (.ldc2_w 237, 3) := by decide +kernel
theorem dX8_checksum_21 : decode cX8_checksum 21 = .ok (.lload_n 1, 1) := by decide +kernel
theorem dX8_checksum_22 : decode cX8_checksum 22 = .ok (.lmul, 1) := by decide +kernel
theorem dX8_checksum_23 : decode cX8_checksum 23 = .ok (.aload_n 0, 1) := by decide +kernel
theorem dX8_checksum_24 : decode cX8_checksum 24 = .ok (.getfield 14, 3) := by decide +kernel
theorem dX8_checksum_27 : decode cX8_checksum 27 = .ok (.getfield 25, 3) := by decide +kernel
theorem dX8_checksum_30 : decode cX8_checksum 30 = .ok (.getfield 205, 3) := by decide +kernel
theorem dX8_checksum_33 : decode cX8_checksum 33 = .ok (.iload_n 3, 1) := by decide +kernel
theorem dX8_checksum_34 : decode cX8_checksum 34 = .ok (.iaload, 1) := by decide +kernel
theorem dX8_checksum_35 : decode cX8_checksum 35 = .ok (.i2l, 1) := by decide +kernel
theorem dX8_checksum_36 : decode cX8_checksum 36 = .ok (.ladd, 1) := by decide +kernel
theorem dX8_checksum_37 : decode cX8_checksum 37 = .ok (.ldc2_w 239, 3) := by decide +kernel
theorem dX8_checksum_40 : decode cX8_checksum 40 = .ok (.aload_n 0, 1) := by decide +kernel
theorem dX8_checksum_41 : decode cX8_checksum 41 = .ok (.getfield 14, 3) := by decide +kernel
theorem dX8_checksum_44 : decode cX8_checksum 44 = .ok (.getfield 25, 3) := by decide +kernel
theorem dX8_checksum_47 : decode cX8_checksum 47 = .ok (.getfield 208, 3) := by decide +kernel
theorem dX8_checksum_50 : decode cX8_checksum 50 = .ok (.iload_n 3, 1) := by decide +kernel
theorem dX8_checksum_51 : decode cX8_checksum 51 = .ok (.iaload, 1) := by decide +kernel
theorem dX8_checksum_52 : decode cX8_checksum 52 = .ok (.i2l, 1) := by decide +kernel
theorem dX8_checksum_53 : decode cX8_checksum 53 = .ok (.lmul, 1) := by decide +kernel
theorem dX8_checksum_54 : decode cX8_checksum 54 = .ok (.ladd, 1) := by decide +kernel
theorem dX8_checksum_55 : decode cX8_checksum 55 = .ok (.lstore_n 1, 1) := by decide +kernel
theorem dX8_checksum_56 : decode cX8_checksum 56 = .ok (.iinc 3 1, 3) := by decide +kernel
theorem dX8_checksum_59 : decode cX8_checksum 59 = .ok (.goto (-55), 3) := by decide +kernel
theorem dX8_checksum_62 : decode cX8_checksum 62 = .ok (.lload_n 1, 1) := by decide +kernel
theorem dX8_checksum_63 : decode cX8_checksum 63 = .ok (.lreturn, 1) := by decide +kernel
set_option maxRecDepth 20000 in
theorem ggX8_aliveShare_X1_alive : GoodIn wsX8_aliveShare wsX1_alive := goodIn_r _ [10, 11, 12, 29, 30, 31, 32, 33, 34] (by decide +kernel) (by decide +kernel)
set_option maxRecDepth 20000 in
theorem gX8_aliveShare_X1_alive : GoodIn wsX8_aliveShare (wsV RX8 243 RX1 yX1_alive wsX1_alive) := goodIn_app (goodIn_of _ (by decide +kernel)) ggX8_aliveShare_X1_alive
theorem dX8_aliveShare_0 : decode cX8_aliveShare 0 = .ok (.aload_n 0, 1) := by decide +kernel
theorem dX8_aliveShare_1 : decode cX8_aliveShare 1 = .ok (.getfield 14, 3) := by decide +kernel
theorem dX8_aliveShare_4 : decode cX8_aliveShare 4 = .ok (.getfield 119, 3) := by decide +kernel
theorem dX8_aliveShare_7 : decode cX8_aliveShare 7 = .ok (.getfield 129, 3) := by decide +kernel
theorem dX8_aliveShare_10 : decode cX8_aliveShare 10 = .ok (.istore_n 1, 1) := by decide +kernel
theorem dX8_aliveShare_11 : decode cX8_aliveShare 11 = .ok (.iload_n 1, 1) := by decide +kernel
theorem dX8_aliveShare_12 : decode cX8_aliveShare 12 = .ok (.ifCond .ne 13, 3) := by decide +kernel
theorem dX8_aliveShare_15 : decode cX8_aliveShare 15 = .ok (.new 197, 3) := by decide +kernel
theorem dX8_aliveShare_18 : decode cX8_aliveShare 18 = .ok (.dup, 1) := by decide +kernel
theorem dX8_aliveShare_19 : decode cX8_aliveShare 19 = .ok (.ldc 241, 2) := by decide +kernel
theorem dX8_aliveShare_21 : decode cX8_aliveShare 21 = .ok (.invokespecial 201, 3) := by decide +kernel
theorem dX8_aliveShare_24 : decode cX8_aliveShare 24 = .ok (.athrow, 1) := by decide +kernel
theorem dX8_aliveShare_25 : decode cX8_aliveShare 25 = .ok (.aload_n 0, 1) := by decide +kernel
theorem dX8_aliveShare_26 : decode cX8_aliveShare 26 = .ok (.getfield 14, 3) := by decide +kernel
theorem dX8_aliveShare_29 : decode cX8_aliveShare 29 = .ok (.getfield 119, 3) := by decide +kernel
theorem dX8_aliveShare_32 : decode cX8_aliveShare 32 = .ok (.invokevirtual 243, 3) := by decide +kernel
theorem dX8_aliveShare_35 : decode cX8_aliveShare 35 = .ok (.i2f, 1) := by decide +kernel
theorem dX8_aliveShare_36 : decode cX8_aliveShare 36 = .ok (.iload_n 1, 1) := by decide +kernel
theorem dX8_aliveShare_37 : decode cX8_aliveShare 37 = .ok (.i2f, 1) := by decide +kernel
theorem dX8_aliveShare_38 : decode cX8_aliveShare 38 = .ok (.fdiv, 1) := by decide +kernel
theorem dX8_aliveShare_39 : decode cX8_aliveShare 39 = .ok (.freturn, 1) := by decide +kernel
set_option maxRecDepth 20000 in
theorem ggX8_meanOxygen_X5_oxygenSum : GoodIn wsX8_meanOxygen wsX5_oxygenSum := goodIn_ca (goodIn_r _ [10, 11, 12, 29, 30, 31, 32, 33] (by decide +kernel) (by decide +kernel)) (goodIn_sub (fun _ h => List.mem_cons_of_mem _ (List.mem_append_right _ h)) (by decide +kernel))
set_option maxRecDepth 20000 in
theorem gX8_meanOxygen_X5_oxygenSum : GoodIn wsX8_meanOxygen (wsV RX8 249 RX5 yX5_oxygenSum wsX5_oxygenSum) := goodIn_app (goodIn_of _ (by decide +kernel)) ggX8_meanOxygen_X5_oxygenSum
theorem dX8_meanOxygen_0 : decode cX8_meanOxygen 0 = .ok (.aload_n 0, 1) := by decide +kernel
theorem dX8_meanOxygen_1 : decode cX8_meanOxygen 1 = .ok (.getfield 14, 3) := by decide +kernel
theorem dX8_meanOxygen_4 : decode cX8_meanOxygen 4 = .ok (.getfield 25, 3) := by decide +kernel
theorem dX8_meanOxygen_7 : decode cX8_meanOxygen 7 = .ok (.getfield 236, 3) := by decide +kernel
theorem dX8_meanOxygen_10 : decode cX8_meanOxygen 10 = .ok (.istore_n 1, 1) := by decide +kernel
theorem dX8_meanOxygen_11 : decode cX8_meanOxygen 11 = .ok (.iload_n 1, 1) := by decide +kernel
theorem dX8_meanOxygen_12 : decode cX8_meanOxygen 12 = .ok (.ifCond .ne 13, 3) := by decide +kernel
theorem dX8_meanOxygen_15 : decode cX8_meanOxygen 15 = .ok (.new 197, 3) := by decide +kernel
theorem dX8_meanOxygen_18 : decode cX8_meanOxygen 18 = .ok (.dup, 1) := by decide +kernel
theorem dX8_meanOxygen_19 : decode cX8_meanOxygen 19 = .ok (.ldc 247, 2) := by decide +kernel
theorem dX8_meanOxygen_21 : decode cX8_meanOxygen 21 = .ok (.invokespecial 201, 3) := by decide +kernel
theorem dX8_meanOxygen_24 : decode cX8_meanOxygen 24 = .ok (.athrow, 1) := by decide +kernel
theorem dX8_meanOxygen_25 : decode cX8_meanOxygen 25 = .ok (.aload_n 0, 1) := by decide +kernel
theorem dX8_meanOxygen_26 : decode cX8_meanOxygen 26 = .ok (.getfield 14, 3) := by decide +kernel
theorem dX8_meanOxygen_29 : decode cX8_meanOxygen 29 = .ok (.getfield 25, 3) := by decide +kernel
theorem dX8_meanOxygen_32 : decode cX8_meanOxygen 32 = .ok (.invokevirtual 249, 3) := by decide +kernel
theorem dX8_meanOxygen_35 : decode cX8_meanOxygen 35 = .ok (.i2d, 1) := by decide +kernel
theorem dX8_meanOxygen_36 : decode cX8_meanOxygen 36 = .ok (.iload_n 1, 1) := by decide +kernel
theorem dX8_meanOxygen_37 : decode cX8_meanOxygen 37 = .ok (.i2d, 1) := by decide +kernel
theorem dX8_meanOxygen_38 : decode cX8_meanOxygen 38 = .ok (.ddiv, 1) := by decide +kernel
theorem dX8_meanOxygen_39 : decode cX8_meanOxygen 39 = .ok (.dreturn, 1) := by decide +kernel
set_option maxRecDepth 20000 in
theorem ggX8_isSound_X7_keepsMass : GoodIn wsX8_isSound wsX7_keepsMass := goodIn_ca (goodIn_r _ [9, 10, 11, 12, 13, 14, 15, 16, 17, 18, 19, 20, 21, 22, 23, 24, 25, 26, 267, 268, 269, 270, 271, 272, 273, 274, 275, 276, 277, 278, 279, 280, 281, 282, 283, 284, 285] (by decide +kernel) (by decide +kernel)) (goodIn_sub (fun _ h => List.mem_cons_of_mem _ (List.mem_append_right _ h)) (by decide +kernel))
set_option maxRecDepth 20000 in
theorem gX8_isSound_X7_keepsMass : GoodIn wsX8_isSound (wsV RX8 252 RX7 yX7_keepsMass wsX7_keepsMass) := goodIn_app (goodIn_of _ (by decide +kernel)) ggX8_isSound_X7_keepsMass
set_option maxRecDepth 20000 in
theorem ggX8_isSound_X0_hasOverdue : GoodIn wsX8_isSound wsX0_hasOverdue := goodIn_ca (goodIn_r _ [31, 32, 33, 34, 286, 287, 288, 289, 290] (by decide +kernel) (by decide +kernel)) (goodIn_sub (fun _ h => List.mem_cons_of_mem _ (List.mem_append_right _ h)) (by decide +kernel))
set_option maxRecDepth 20000 in
theorem gX8_isSound_X0_hasOverdue : GoodIn wsX8_isSound (wsV RX8 255 RX0 yX0_hasOverdue wsX0_hasOverdue) := goodIn_app (goodIn_of _ (by decide +kernel)) ggX8_isSound_X0_hasOverdue
set_option maxRecDepth 20000 in
theorem ggX8_isSound_X8_worst : GoodIn wsX8_isSound wsX8_worst := goodIn_ca (goodIn_r _ [39, 1, 40, 41, 42, 43, 44, 38, 45, 46, 47, 48, 49, 50, 51, 52, 53, 54, 55, 56, 57, 58, 59, 8, 60, 11, 61, 62, 63, 64, 65, 66, 67, 68, 69, 13, 14, 10, 70, 71, 72, 18, 73, 20, 21, 26, 74, 75, 76, 77, 78, 79, 80, 81, 82, 83, 84, 85, 86, 87, 88, 89, 90, 91, 92, 93, 94, 95, 96, 97, 98, 99, 100, 101, 102, 103, 104, 105, 30, 106, 32, 107, 108, 33, 34, 109, 110, 111, 112, 113, 114, 115, 116, 117, 118, 119, 120, 121, 122, 123, 124, 125, 126, 127, 128, 129, 130, 131, 132, 133, 134, 135, 136, 137, 138, 139, 140, 141, 142, 143, 144, 145, 146, 147, 148, 149, 150, 151, 152, 153, 154, 155, 156, 157, 158, 159, 160, 161, 162, 163, 164, 165, 166, 167, 168, 169, 170, 171, 172, 173, 174, 175, 176, 177, 178, 179, 180, 181, 182, 183, 184, 185, 186, 187, 188, 189, 190, 191, 192, 193, 194, 195, 196, 197, 198, 199, 200, 201, 202, 203, 204, 205, 206, 207, 208, 209, 210, 211, 212, 213, 214, 215, 216, 217, 218, 219, 220, 221, 222, 223, 224, 225, 226, 227, 228, 229, 230, 231, 232, 233, 234, 235, 236, 237, 238, 239, 240, 241, 242, 243, 244, 245, 246, 247, 248, 249, 250, 251, 252, 253, 254, 255, 256, 257, 258, 259, 260, 265, 266, 267, 268, 269, 270, 271, 272, 273, 274, 275, 276, 277, 278, 279, 280, 291, 292, 293, 294, 295, 296, 297, 298, 299, 300, 301, 281, 282, 283, 284, 285, 302, 303, 304, 305, 286, 287, 288, 289, 290, 306, 307, 308, 309, 310, 311, 312, 313] (by decide +kernel) (by decide +kernel)) (goodIn_sub (fun _ h => List.mem_cons_of_mem _ (List.mem_append_right _ h)) (by decide +kernel))
set_option maxRecDepth 20000 in
theorem gX8_isSound_X8_worst : GoodIn wsX8_isSound (wsV RX8 259 RX8 yX8_worst wsX8_worst) := goodIn_app (goodIn_of _ (by decide +kernel)) ggX8_isSound_X8_worst
set_option maxRecDepth 20000 in
theorem ggX8_isSound_X8_timeLeft : GoodIn wsX8_isSound wsX8_timeLeft := goodIn_ca (goodIn_r _ [264, 42, 43, 44, 38, 45, 1, 46, 47, 40, 48, 49, 50, 51, 52, 53, 54, 55, 56, 57, 58, 59, 8, 60, 11, 61, 62, 63, 64, 65, 66, 67, 68, 69, 13, 14, 10, 70, 71, 72, 18, 73, 20, 21, 26, 74, 75, 76, 77, 78, 79, 80, 81, 82, 83, 84, 85, 86, 87, 88, 89, 90, 91, 92, 93, 94, 95, 96, 97, 98, 99, 100, 101, 102, 103, 104, 105, 30, 106, 32, 107, 108, 33, 34, 109, 110, 111, 112, 113, 114, 115, 116, 117, 118, 119, 120, 121, 122, 123, 124, 125, 126, 127, 128, 129, 130, 131, 132, 133, 134, 135, 136, 137, 138, 139, 140, 141, 142, 143, 144, 145, 146, 147, 148, 149, 150, 151, 152, 153, 154, 155, 156, 157, 158, 159, 160, 161, 162, 163, 164, 165, 166, 167, 168, 169, 170, 171, 172, 173, 174, 175, 176, 177, 178, 179, 180, 181, 182, 183, 184, 185, 186, 187, 188, 189, 190, 191, 192, 193, 194, 195, 196, 197, 198, 199, 200, 201, 202, 203, 204, 205, 206, 207, 208, 209, 210, 211, 212, 213, 214, 215, 216, 217, 218, 219, 220, 221, 222, 223, 224, 225, 226, 227, 228, 229, 230, 231, 232, 233, 234, 235, 236, 237, 238, 239, 240, 241, 242, 243, 244, 245, 246, 247, 248, 249, 250, 251, 252, 253, 254, 255, 256, 257, 258, 259, 260, 265, 266, 267, 268, 269, 270, 271, 272, 273, 274, 275, 276, 277, 278, 279, 280, 291, 292, 293, 294, 295, 296, 297, 298, 299, 300, 301, 281, 282, 283, 284, 285, 302, 303, 304, 305, 286, 287, 288, 289, 290, 306, 307, 308, 309, 310, 311, 312, 313] (by decide +kernel) (by decide +kernel)) (goodIn_sub (fun _ h => List.mem_cons_of_mem _ (List.mem_append_right _ h)) (by decide +kernel))
set_option maxRecDepth 20000 in
theorem gX8_isSound_X8_timeLeft : GoodIn wsX8_isSound (wsV RX8 262 RX8 yX8_timeLeft wsX8_timeLeft) := goodIn_app (goodIn_of _ (by decide +kernel)) ggX8_isSound_X8_timeLeft
theorem dX8_isSound_0 : decode cX8_isSound 0 = .ok (.aload_n 0, 1) := by decide +kernel
theorem dX8_isSound_1 : decode cX8_isSound 1 = .ok (.getfield 14, 3) := by decide +kernel
theorem dX8_isSound_4 : decode cX8_isSound 4 = .ok (.invokevirtual 252, 3) := by decide +kernel
theorem dX8_isSound_7 : decode cX8_isSound 7 = .ok (.ifCond .eq 61, 3) := by decide +kernel
theorem dX8_isSound_10 : decode cX8_isSound 10 = .ok (.aload_n 0, 1) := by decide +kernel
theorem dX8_isSound_11 : decode cX8_isSound 11 = .ok (.getfield 14, 3) := by decide +kernel
theorem dX8_isSound_14 : decode cX8_isSound 14 = .ok (.getfield 214, 3) := by decide +kernel
theorem dX8_isSound_17 : decode cX8_isSound 17 = .ok (.ifCond .lt 51, 3) := by decide +kernel
theorem dX8_isSound_20 : decode cX8_isSound 20 = .ok (.aload_n 0, 1) := by decide +kernel
theorem dX8_isSound_21 : decode cX8_isSound 21 = .ok (.getfield 14, 3) := by decide +kernel
theorem dX8_isSound_24 : decode cX8_isSound 24 = .ok (.getfield 214, 3) := by decide +kernel
theorem dX8_isSound_27 : decode cX8_isSound 27 = .ok (.sipush 200, 3) := by decide +kernel
theorem dX8_isSound_30 : decode cX8_isSound 30 = .ok (.if_icmp .gt 38, 3) := by decide +kernel
theorem dX8_isSound_33 : decode cX8_isSound 33 = .ok (.aload_n 0, 1) := by decide +kernel
theorem dX8_isSound_34 : decode cX8_isSound 34 = .ok (.getfield 14, 3) := by decide +kernel
theorem dX8_isSound_37 : decode cX8_isSound 37 = .ok (.getfield 151, 3) := by decide +kernel
theorem dX8_isSound_40 : decode cX8_isSound 40 = .ok (.aload_n 0, 1) := by decide +kernel
theorem dX8_isSound_41 : decode cX8_isSound 41 = .ok (.getfield 14, 3) := by decide +kernel
theorem dX8_isSound_44 : decode cX8_isSound 44 = .ok (.getfield 162, 3) := by decide +kernel
theorem dX8_isSound_47 : decode cX8_isSound 47 = .ok (.invokevirtual 255, 3) := by decide +kernel
theorem dX8_isSound_50 : decode cX8_isSound 50 = .ok (.ifCond .ne 18, 3) := by decide +kernel
theorem dX8_isSound_53 : decode cX8_isSound 53 = .ok (.aload_n 0, 1) := by decide +kernel
theorem dX8_isSound_54 : decode cX8_isSound 54 = .ok (.invokevirtual 259, 3) := by decide +kernel
theorem dX8_isSound_57 : decode cX8_isSound 57 = .ok (.aload_n 0, 1) := by decide +kernel
theorem dX8_isSound_58 : decode cX8_isSound 58 = .ok (.invokevirtual 262, 3) := by decide +kernel
theorem dX8_isSound_61 : decode cX8_isSound 61 = .ok (.if_icmp .gt 7, 3) := by decide +kernel
theorem dX8_isSound_64 : decode cX8_isSound 64 = .ok (.iconst 1, 1) := by decide +kernel
theorem dX8_isSound_65 : decode cX8_isSound 65 = .ok (.goto 4, 3) := by decide +kernel
theorem dX8_isSound_68 : decode cX8_isSound 68 = .ok (.iconst 0, 1) := by decide +kernel
theorem dX8_isSound_69 : decode cX8_isSound 69 = .ok (.ireturn, 1) := by decide +kernel
set_option maxRecDepth 20000 in
theorem ggX8_minutesToDeath_X1_alive : GoodIn wsX8_minutesToDeath wsX1_alive := goodIn_r _ [11, 12, 13, 252, 253, 254, 255, 256, 257] (by decide +kernel) (by decide +kernel)
set_option maxRecDepth 20000 in
theorem gX8_minutesToDeath_X1_alive : GoodIn wsX8_minutesToDeath (wsV RX8 243 RX1 yX1_alive wsX1_alive) := goodIn_app (goodIn_of _ (by decide +kernel)) ggX8_minutesToDeath_X1_alive
set_option maxRecDepth 20000 in
theorem ggX8_minutesToDeath_X7_copyFrom : GoodIn wsX8_minutesToDeath wsX7_copyFrom := goodIn_ca (goodIn_r _ [18, 19, 20, 21, 22, 23, 24, 25, 26, 27, 28, 29, 30, 31, 32, 33, 34, 35, 36, 37, 38, 39, 40, 41, 42, 43, 44, 45, 46, 47, 48, 49, 50, 51, 52, 53, 54, 55, 56, 57, 58, 59, 60, 61, 62, 63, 10, 64, 12, 65, 66, 67, 68, 13, 69, 70, 71, 72, 73, 74, 75, 76, 77, 78, 79, 80, 81, 82, 83, 84, 85, 86, 87, 88, 89, 233, 234, 235, 236, 237, 238, 239, 240, 241, 242, 243, 244, 245, 246, 258, 259, 260, 261, 262, 263, 264, 265, 266, 247, 248, 249, 250, 251, 252, 253, 254, 255, 256, 257, 267, 268, 269, 270, 271, 272, 273, 274, 275, 276, 277] (by decide +kernel) (by decide +kernel)) (goodIn_sub (fun _ h => List.mem_cons_of_mem _ (List.mem_append_right _ h)) (by decide +kernel))
set_option maxRecDepth 20000 in
theorem gX8_minutesToDeath_X7_copyFrom : GoodIn wsX8_minutesToDeath (wsV RX8 265 RX7 yX7_copyFrom wsX7_copyFrom) := goodIn_app (goodIn_of _ (by decide +kernel)) ggX8_minutesToDeath_X7_copyFrom
set_option maxRecDepth 20000 in
theorem ggX8_minutesToDeath_X7_passMinute : GoodIn wsX8_minutesToDeath wsX7_passMinute := goodIn_ca (goodIn_r _ [93, 24, 94, 19, 22, 25, 26, 95, 96, 97, 17, 98, 23, 99, 100, 101, 102, 103, 104, 72, 105, 77, 78, 106, 107, 108, 109, 110, 111, 112, 113, 114, 115, 116, 117, 118, 119, 120, 121, 122, 123, 124, 21, 20, 125, 126, 127, 54, 128, 56, 59, 129, 130, 131, 45, 132, 47, 50, 133, 134, 135, 136, 75, 76, 137, 138, 139, 82, 140, 84, 89, 85, 86, 141, 142, 143, 144, 88, 145, 146, 147, 148, 149, 29, 31, 150, 151, 152, 153, 28, 27, 154, 155, 156, 157, 30, 158, 159, 160, 161, 162, 163, 164, 165, 166, 167, 168, 169, 170, 171, 172, 35, 173, 39, 174, 175, 176, 177, 178, 37, 179, 180, 181, 182, 38, 183, 184, 185, 186, 40, 41, 187, 188, 189, 190, 191, 192, 193, 194, 195, 196, 197, 198, 199, 200, 201, 10, 202, 12, 68, 66, 65, 67, 13, 203, 204, 205, 206, 207, 208, 209, 210, 211, 212, 213, 214, 215, 216, 217, 218, 219, 220, 221, 222, 223, 224, 225, 226, 57, 227, 228, 229, 230, 233, 234, 235, 236, 237, 238, 239, 240, 241, 242, 243, 244, 245, 246, 267, 268, 269, 270, 271, 278, 279, 247, 248, 249, 250, 251, 263, 264, 265, 266, 272, 273, 274, 275, 276, 277, 258, 259, 260, 261, 262, 252, 253, 254, 255, 256, 257] (by decide +kernel) (by decide +kernel)) (goodIn_sub (fun _ h => List.mem_cons_of_mem _ (List.mem_append_right _ h)) (by decide +kernel))
set_option maxRecDepth 20000 in
theorem gX8_minutesToDeath_X7_passMinute : GoodIn wsX8_minutesToDeath (wsV RX8 202 RX7 yX7_passMinute wsX7_passMinute) := goodIn_app (goodIn_of _ (by decide +kernel)) ggX8_minutesToDeath_X7_passMinute
theorem dX8_minutesToDeath_0 : decode cX8_minutesToDeath 0 = .ok (.aload_n 0, 1) := by decide +kernel
theorem dX8_minutesToDeath_1 : decode cX8_minutesToDeath 1 = .ok (.getfield 14, 3) := by decide +kernel
theorem dX8_minutesToDeath_4 : decode cX8_minutesToDeath 4 = .ok (.getfield 119, 3) := by decide +kernel
theorem dX8_minutesToDeath_7 : decode cX8_minutesToDeath 7 = .ok (.invokevirtual 243, 3) := by decide +kernel
theorem dX8_minutesToDeath_10 : decode cX8_minutesToDeath 10 = .ok (.ifCond .ne 5, 3) := by decide +kernel
theorem dX8_minutesToDeath_13 : decode cX8_minutesToDeath 13 = .ok (.iload_n 2, 1) := by decide +kernel
theorem dX8_minutesToDeath_14 : decode cX8_minutesToDeath 14 = .ok (.ireturn, 1) := by decide +kernel
theorem dX8_minutesToDeath_15 : decode cX8_minutesToDeath 15 = .ok (.aload_n 0, 1) := by decide +kernel
theorem dX8_minutesToDeath_16 : decode cX8_minutesToDeath 16 = .ok (.getfield 18, 3) := by decide +kernel
theorem dX8_minutesToDeath_19 : decode cX8_minutesToDeath 19 = .ok (.aload_n 0, 1) := by decide +kernel
theorem dX8_minutesToDeath_20 : decode cX8_minutesToDeath 20 = .ok (.getfield 14, 3) := by decide +kernel
theorem dX8_minutesToDeath_23 : decode cX8_minutesToDeath 23 = .ok (.invokevirtual 265, 3) := by decide +kernel
theorem dX8_minutesToDeath_26 : decode cX8_minutesToDeath 26 = .ok (.aload_n 0, 1) := by decide +kernel
theorem dX8_minutesToDeath_27 : decode cX8_minutesToDeath 27 = .ok (.getfield 18, 3) := by decide +kernel
theorem dX8_minutesToDeath_30 : decode cX8_minutesToDeath 30 = .ok (.getfield 87, 3) := by decide +kernel
theorem dX8_minutesToDeath_33 : decode cX8_minutesToDeath 33 = .ok (.iload_n 1, 1) := by decide +kernel
theorem dX8_minutesToDeath_34 : decode cX8_minutesToDeath 34 = .ok (.putfield 269, 3) := by decide +kernel
theorem dX8_minutesToDeath_37 : decode cX8_minutesToDeath 37 = .ok (.iconst 1, 1) := by decide +kernel
theorem dX8_minutesToDeath_38 : decode cX8_minutesToDeath 38 = .ok (.istore_n 3, 1) := by decide +kernel
theorem dX8_minutesToDeath_39 : decode cX8_minutesToDeath 39 = .ok (.iload_n 3, 1) := by decide +kernel
theorem dX8_minutesToDeath_40 : decode cX8_minutesToDeath 40 = .ok (.iload_n 2, 1) := by decide +kernel
theorem dX8_minutesToDeath_41 : decode cX8_minutesToDeath 41 = .ok (.if_icmp .gt 41, 3) := by decide +kernel
theorem dX8_minutesToDeath_44 : decode cX8_minutesToDeath 44 = .ok (.aload_n 0, 1) := by decide +kernel
theorem dX8_minutesToDeath_45 : decode cX8_minutesToDeath 45 = .ok (.getfield 18, 3) := by decide +kernel
theorem dX8_minutesToDeath_48 : decode cX8_minutesToDeath 48 = .ok (.invokevirtual 202, 3) := by decide +kernel
theorem dX8_minutesToDeath_51 : decode cX8_minutesToDeath 51 = .ok (.aload_n 0, 1) := by decide +kernel
theorem dX8_minutesToDeath_52 : decode cX8_minutesToDeath 52 = .ok (.getfield 18, 3) := by decide +kernel
theorem dX8_minutesToDeath_55 : decode cX8_minutesToDeath 55 = .ok (.getfield 119, 3) := by decide +kernel
theorem dX8_minutesToDeath_58 : decode cX8_minutesToDeath 58 = .ok (.getfield 272, 3) := by decide +kernel
theorem dX8_minutesToDeath_61 : decode cX8_minutesToDeath 61 = .ok (.aload_n 0, 1) := by decide +kernel
theorem dX8_minutesToDeath_62 : decode cX8_minutesToDeath 62 = .ok (.getfield 14, 3) := by decide +kernel
theorem dX8_minutesToDeath_65 : decode cX8_minutesToDeath 65 = .ok (.getfield 119, 3) := by decide +kernel
theorem dX8_minutesToDeath_68 : decode cX8_minutesToDeath 68 = .ok (.getfield 272, 3) := by decide +kernel
theorem dX8_minutesToDeath_71 : decode cX8_minutesToDeath 71 = .ok (.if_icmp .le 5, 3) := by decide +kernel
theorem dX8_minutesToDeath_74 : decode cX8_minutesToDeath 74 = .ok (.iload_n 3, 1) := by decide +kernel
theorem dX8_minutesToDeath_75 : decode cX8_minutesToDeath 75 = .ok (.ireturn, 1) := by decide +kernel
theorem dX8_minutesToDeath_76 : decode cX8_minutesToDeath 76 = .ok (.iinc 3 1, 3) := by decide +kernel
theorem dX8_minutesToDeath_79 : decode cX8_minutesToDeath 79 = .ok (.goto (-40), 3) := by decide +kernel
theorem dX8_minutesToDeath_82 : decode cX8_minutesToDeath 82 = .ok (.iload_n 2, 1) := by decide +kernel
theorem dX8_minutesToDeath_83 : decode cX8_minutesToDeath 83 = .ok (.ireturn, 1) := by decide +kernel
set_option maxRecDepth 20000 in
theorem ggX8_requireRoom_X8_requireIndex : GoodIn wsX8_requireRoom wsX8_requireIndex := goodIn_ca (goodIn_r _ [7, 8, 9] (by decide +kernel) (by decide +kernel)) (goodIn_sub (fun _ h => List.mem_cons_of_mem _ (List.mem_append_right _ h)) (by decide +kernel))
set_option maxRecDepth 20000 in
theorem gX8_requireRoom_X8_requireIndex : GoodIn wsX8_requireRoom (va_wsS RX8 73 yX8_requireIndex wsX8_requireIndex) := goodIn_app (goodIn_of _ (by decide +kernel)) ggX8_requireRoom_X8_requireIndex
theorem dX8_requireRoom_0 : decode cX8_requireRoom 0 = .ok (.iload_n 1, 1) := by decide +kernel
theorem dX8_requireRoom_1 : decode cX8_requireRoom 1 = .ok (.aload_n 0, 1) := by decide +kernel
theorem dX8_requireRoom_2 : decode cX8_requireRoom 2 = .ok (.getfield 14, 3) := by decide +kernel
theorem dX8_requireRoom_5 : decode cX8_requireRoom 5 = .ok (.getfield 25, 3) := by decide +kernel
theorem dX8_requireRoom_8 : decode cX8_requireRoom 8 = .ok (.getfield 236, 3) := by decide +kernel
theorem dX8_requireRoom_11 : decode cX8_requireRoom 11 = .ok (.invokestatic 73, 3) := by decide +kernel
theorem dX8_requireRoom_14 : decode cX8_requireRoom 14 = .ok (.return_, 1) := by decide +kernel
theorem dX8_requireAlive_0 : decode cX8_requireAlive 0 = .ok (.aload_n 0, 1) := by decide +kernel
theorem dX8_requireAlive_1 : decode cX8_requireAlive 1 = .ok (.getfield 14, 3) := by decide +kernel
theorem dX8_requireAlive_4 : decode cX8_requireAlive 4 = .ok (.getfield 119, 3) := by decide +kernel
theorem dX8_requireAlive_7 : decode cX8_requireAlive 7 = .ok (.getfield 217, 3) := by decide +kernel
theorem dX8_requireAlive_10 : decode cX8_requireAlive 10 = .ok (.iload_n 1, 1) := by decide +kernel
theorem dX8_requireAlive_11 : decode cX8_requireAlive 11 = .ok (.baload, 1) := by decide +kernel
theorem dX8_requireAlive_12 : decode cX8_requireAlive 12 = .ok (.ifCond .eq 14, 3) := by decide +kernel
theorem dX8_requireAlive_15 : decode cX8_requireAlive 15 = .ok (.new 35, 3) := by decide +kernel
theorem dX8_requireAlive_18 : decode cX8_requireAlive 18 = .ok (.dup, 1) := by decide +kernel
theorem dX8_requireAlive_19 : decode cX8_requireAlive 19 = .ok (.ldc_w 275, 3) := by decide +kernel
theorem dX8_requireAlive_22 : decode cX8_requireAlive 22 = .ok (.invokespecial 39, 3) := by decide +kernel
theorem dX8_requireAlive_25 : decode cX8_requireAlive 25 = .ok (.athrow, 1) := by decide +kernel
theorem dX8_requireAlive_26 : decode cX8_requireAlive 26 = .ok (.return_, 1) := by decide +kernel
theorem dX8_requireIndex_0 : decode cX8_requireIndex 0 = .ok (.iload_n 0, 1) := by decide +kernel
theorem dX8_requireIndex_1 : decode cX8_requireIndex 1 = .ok (.ifCond .lt 8, 3) := by decide +kernel
theorem dX8_requireIndex_4 : decode cX8_requireIndex 4 = .ok (.iload_n 0, 1) := by decide +kernel
theorem dX8_requireIndex_5 : decode cX8_requireIndex 5 = .ok (.iload_n 1, 1) := by decide +kernel
theorem dX8_requireIndex_6 : decode cX8_requireIndex 6 = .ok (.if_icmp .lt 14, 3) := by decide +kernel
theorem dX8_requireIndex_9 : decode cX8_requireIndex 9 = .ok (.new 277, 3) := by decide +kernel
theorem dX8_requireIndex_12 : decode cX8_requireIndex 12 = .ok (.dup, 1) := by decide +kernel
theorem dX8_requireIndex_13 : decode cX8_requireIndex 13 = .ok (.ldc_w 279, 3) := by decide +kernel
theorem dX8_requireIndex_16 : decode cX8_requireIndex 16 = .ok (.invokespecial 281, 3) := by decide +kernel
theorem dX8_requireIndex_19 : decode cX8_requireIndex 19 = .ok (.athrow, 1) := by decide +kernel
theorem dX8_requireIndex_20 : decode cX8_requireIndex 20 = .ok (.return_, 1) := by decide +kernel
theorem dX8_requireRange_0 : decode cX8_requireRange 0 = .ok (.iload_n 0, 1) := by decide +kernel
theorem dX8_requireRange_1 : decode cX8_requireRange 1 = .ok (.iload_n 1, 1) := by decide +kernel
theorem dX8_requireRange_2 : decode cX8_requireRange 2 = .ok (.if_icmp .lt 8, 3) := by decide +kernel
theorem dX8_requireRange_5 : decode cX8_requireRange 5 = .ok (.iload_n 0, 1) := by decide +kernel
theorem dX8_requireRange_6 : decode cX8_requireRange 6 = .ok (.iload_n 2, 1) := by decide +kernel
theorem dX8_requireRange_7 : decode cX8_requireRange 7 = .ok (.if_icmp .le 14, 3) := by decide +kernel
theorem dX8_requireRange_10 : decode cX8_requireRange 10 = .ok (.new 53, 3) := by decide +kernel
theorem dX8_requireRange_13 : decode cX8_requireRange 13 = .ok (.dup, 1) := by decide +kernel
theorem dX8_requireRange_14 : decode cX8_requireRange 14 = .ok (.ldc_w 282, 3) := by decide +kernel
theorem dX8_requireRange_17 : decode cX8_requireRange 17 = .ok (.invokespecial 57, 3) := by decide +kernel
theorem dX8_requireRange_20 : decode cX8_requireRange 20 = .ok (.athrow, 1) := by decide +kernel
theorem dX8_requireRange_21 : decode cX8_requireRange 21 = .ok (.return_, 1) := by decide +kernel
theorem dX9_init_0 : decode cX9_init 0 = .ok (.aload_n 0, 1) := by decide +kernel
theorem dX9_init_1 : decode cX9_init 1 = .ok (.invokespecial 1, 3) := by decide +kernel
theorem dX9_init_4 : decode cX9_init 4 = .ok (.aload_n 0, 1) := by decide +kernel
theorem dX9_init_5 : decode cX9_init 5 = .ok (.iload_n 1, 1) := by decide +kernel
theorem dX9_init_6 : decode cX9_init 6 = .ok (.putfield 7, 3) := by decide +kernel
theorem dX9_init_9 : decode cX9_init 9 = .ok (.aload_n 0, 1) := by decide +kernel
theorem dX9_init_10 : decode cX9_init 10 = .ok (.iload_n 2, 1) := by decide +kernel
theorem dX9_init_11 : decode cX9_init 11 = .ok (.putfield 13, 3) := by decide +kernel
theorem dX9_init_14 : decode cX9_init 14 = .ok (.aload_n 0, 1) := by decide +kernel
theorem dX9_init_15 : decode cX9_init 15 = .ok (.iload_n 3, 1) := by decide +kernel
theorem dX9_init_16 : decode cX9_init 16 = .ok (.putfield 17, 3) := by decide +kernel
theorem dX9_init_19 : decode cX9_init 19 = .ok (.aload_n 0, 1) := by decide +kernel
theorem dX9_init_20 : decode cX9_init 20 = .ok (.iload 4, 2) := by decide +kernel
theorem dX9_init_22 : decode cX9_init 22 = .ok (.putfield 20, 3) := by decide +kernel
theorem dX9_init_25 : decode cX9_init 25 = .ok (.return_, 1) := by decide +kernel
theorem dX10_init_0 : decode cX10_init 0 = .ok (.aload_n 0, 1) := by decide +kernel
theorem dX10_init_1 : decode cX10_init 1 = .ok (.invokespecial 1, 3) := by decide +kernel
theorem dX10_init_4 : decode cX10_init 4 = .ok (.aload_n 0, 1) := by decide +kernel
theorem dX10_init_5 : decode cX10_init 5 = .ok (.iconst 0, 1) := by decide +kernel
theorem dX10_init_6 : decode cX10_init 6 = .ok (.putfield 7, 3) := by decide +kernel
theorem dX10_init_9 : decode cX10_init 9 = .ok (.aload_n 0, 1) := by decide +kernel
theorem dX10_init_10 : decode cX10_init 10 = .ok (.iconst 0, 1) := by decide +kernel
theorem dX10_init_11 : decode cX10_init 11 = .ok (.putfield 13, 3) := by decide +kernel
theorem dX10_init_14 : decode cX10_init 14 = .ok (.aload_n 0, 1) := by decide +kernel
theorem dX10_init_15 : decode cX10_init 15 = .ok (.iload_n 1, 1) := by decide +kernel
theorem dX10_init_16 : decode cX10_init 16 = .ok (.putfield 16, 3) := by decide +kernel
theorem dX10_init_19 : decode cX10_init 19 = .ok (.aload_n 0, 1) := by decide +kernel
theorem dX10_init_20 : decode cX10_init 20 = .ok (.iload_n 2, 1) := by decide +kernel
theorem dX10_init_21 : decode cX10_init 21 = .ok (.putfield 20, 3) := by decide +kernel
theorem dX10_init_24 : decode cX10_init 24 = .ok (.return_, 1) := by decide +kernel
theorem dX10_power_0 : decode cX10_power 0 = .ok (.aload_n 0, 1) := by decide +kernel
theorem dX10_power_1 : decode cX10_power 1 = .ok (.getfield 16, 3) := by decide +kernel
theorem dX10_power_4 : decode cX10_power 4 = .ok (.bipush 115, 2) := by decide +kernel
theorem dX10_power_6 : decode cX10_power 6 = .ok (.if_icmp .ne 7, 3) := by decide +kernel
theorem dX10_power_9 : decode cX10_power 9 = .ok (.iconst 3, 1) := by decide +kernel
theorem dX10_power_10 : decode cX10_power 10 = .ok (.goto 17, 3) := by decide +kernel
theorem dX10_power_13 : decode cX10_power 13 = .ok (.aload_n 0, 1) := by decide +kernel
theorem dX10_power_14 : decode cX10_power 14 = .ok (.getfield 16, 3) := by decide +kernel
theorem dX10_power_17 : decode cX10_power 17 = .ok (.bipush 101, 2) := by decide +kernel
theorem dX10_power_19 : decode cX10_power 19 = .ok (.if_icmp .ne 7, 3) := by decide +kernel
theorem dX10_power_22 : decode cX10_power 22 = .ok (.iconst 5, 1) := by decide +kernel
theorem dX10_power_23 : decode cX10_power 23 = .ok (.goto 4, 3) := by decide +kernel
theorem dX10_power_26 : decode cX10_power 26 = .ok (.iconst 2, 1) := by decide +kernel
theorem dX10_power_27 : decode cX10_power 27 = .ok (.ireturn, 1) := by decide +kernel
theorem dX11_init_0 : decode cX11_init 0 = .ok (.aload_n 0, 1) := by decide +kernel
theorem dX11_init_1 : decode cX11_init 1 = .ok (.invokespecial 1, 3) := by decide +kernel
theorem dX11_init_4 : decode cX11_init 4 = .ok (.aload_n 0, 1) := by decide +kernel
theorem dX11_init_5 : decode cX11_init 5 = .ok (.iconst 1, 1) := by decide +kernel
theorem dX11_init_6 : decode cX11_init 6 = .ok (.putfield 7, 3) := by decide +kernel
theorem dX11_init_9 : decode cX11_init 9 = .ok (.aload_n 0, 1) := by decide +kernel
theorem dX11_init_10 : decode cX11_init 10 = .ok (.iload_n 1, 1) := by decide +kernel
theorem dX11_init_11 : decode cX11_init 11 = .ok (.putfield 13, 3) := by decide +kernel
theorem dX11_init_14 : decode cX11_init 14 = .ok (.aload_n 0, 1) := by decide +kernel
theorem dX11_init_15 : decode cX11_init 15 = .ok (.iload_n 2, 1) := by decide +kernel
theorem dX11_init_16 : decode cX11_init 16 = .ok (.putfield 17, 3) := by decide +kernel
theorem dX11_init_19 : decode cX11_init 19 = .ok (.return_, 1) := by decide +kernel
theorem dX12_init_0 : decode cX12_init 0 = .ok (.aload_n 0, 1) := by decide +kernel
theorem dX12_init_1 : decode cX12_init 1 = .ok (.invokespecial 1, 3) := by decide +kernel
theorem dX12_init_4 : decode cX12_init 4 = .ok (.aload_n 0, 1) := by decide +kernel
theorem dX12_init_5 : decode cX12_init 5 = .ok (.bipush 114, 2) := by decide +kernel
theorem dX12_init_7 : decode cX12_init 7 = .ok (.putfield 7, 3) := by decide +kernel
theorem dX12_init_10 : decode cX12_init 10 = .ok (.aload_n 0, 1) := by decide +kernel
theorem dX12_init_11 : decode cX12_init 11 = .ok (.iconst 0, 1) := by decide +kernel
theorem dX12_init_12 : decode cX12_init 12 = .ok (.putfield 13, 3) := by decide +kernel
theorem dX12_init_15 : decode cX12_init 15 = .ok (.aload_n 0, 1) := by decide +kernel
theorem dX12_init_16 : decode cX12_init 16 = .ok (.iload_n 1, 1) := by decide +kernel
theorem dX12_init_17 : decode cX12_init 17 = .ok (.putfield 17, 3) := by decide +kernel
theorem dX12_init_20 : decode cX12_init 20 = .ok (.return_, 1) := by decide +kernel
theorem dX13_init_0 : decode cX13_init 0 = .ok (.aload_n 0, 1) := by decide +kernel
theorem dX13_init_1 : decode cX13_init 1 = .ok (.invokespecial 1, 3) := by decide +kernel
theorem dX13_init_4 : decode cX13_init 4 = .ok (.aload_n 0, 1) := by decide +kernel
theorem dX13_init_5 : decode cX13_init 5 = .ok (.iconst 0, 1) := by decide +kernel
theorem dX13_init_6 : decode cX13_init 6 = .ok (.putfield 7, 3) := by decide +kernel
theorem dX13_init_9 : decode cX13_init 9 = .ok (.aload_n 0, 1) := by decide +kernel
theorem dX13_init_10 : decode cX13_init 10 = .ok (.bipush 20, 2) := by decide +kernel
theorem dX13_init_12 : decode cX13_init 12 = .ok (.putfield 13, 3) := by decide +kernel
theorem dX13_init_15 : decode cX13_init 15 = .ok (.aload_n 0, 1) := by decide +kernel
theorem dX13_init_16 : decode cX13_init 16 = .ok (.iload_n 1, 1) := by decide +kernel
theorem dX13_init_17 : decode cX13_init 17 = .ok (.putfield 16, 3) := by decide +kernel
theorem dX13_init_20 : decode cX13_init 20 = .ok (.aload_n 0, 1) := by decide +kernel
theorem dX13_init_21 : decode cX13_init 21 = .ok (.iload_n 2, 1) := by decide +kernel
theorem dX13_init_22 : decode cX13_init 22 = .ok (.putfield 19, 3) := by decide +kernel
theorem dX13_init_25 : decode cX13_init 25 = .ok (.return_, 1) := by decide +kernel
set_option maxRecDepth 20000 in
theorem ggX14_init_Jx4a65c_init_da8c8 : GoodIn wsX14_init wsJx4a65c_init_da8c8 := goodIn_r _ [23, 24, 25, 26, 27, 28, 29, 30, 31, 32, 33, 34, 35, 2, 3, 36, 37, 38] (by decide +kernel) (by decide +kernel)
set_option maxRecDepth 20000 in
theorem gX14_init_Jx4a65c_init_da8c8 : GoodIn wsX14_init (wsJx4a65c_init_da8c8) := ggX14_init_Jx4a65c_init_da8c8
theorem dX14_init_0 : decode cX14_init 0 = .ok (.aload_n 0, 1) := by decide +kernel
theorem dX14_init_1 : decode cX14_init 1 = .ok (.invokespecial 3, 3) := by decide +kernel
theorem dX14_init_4 : decode cX14_init 4 = .ok (.aload_n 0, 1) := by decide +kernel
theorem dX14_init_5 : decode cX14_init 5 = .ok (.new 9, 3) := by decide +kernel
theorem dX14_init_8 : decode cX14_init 8 = .ok (.dup, 1) := by decide +kernel
theorem dX14_init_9 : decode cX14_init 9 = .ok (.invokespecial 11, 3) := by decide +kernel
theorem dX14_init_12 : decode cX14_init 12 = .ok (.putfield 12, 3) := by decide +kernel
theorem dX14_init_15 : decode cX14_init 15 = .ok (.aload_n 0, 1) := by decide +kernel
theorem dX14_init_16 : decode cX14_init 16 = .ok (.new 9, 3) := by decide +kernel
theorem dX14_init_19 : decode cX14_init 19 = .ok (.dup, 1) := by decide +kernel
theorem dX14_init_20 : decode cX14_init 20 = .ok (.invokespecial 11, 3) := by decide +kernel
theorem dX14_init_23 : decode cX14_init 23 = .ok (.putfield 18, 3) := by decide +kernel
theorem dX14_init_26 : decode cX14_init 26 = .ok (.aload_n 0, 1) := by decide +kernel
theorem dX14_init_27 : decode cX14_init 27 = .ok (.new 9, 3) := by decide +kernel
theorem dX14_init_30 : decode cX14_init 30 = .ok (.dup, 1) := by decide +kernel
theorem dX14_init_31 : decode cX14_init 31 = .ok (.invokespecial 11, 3) := by decide +kernel
theorem dX14_init_34 : decode cX14_init 34 = .ok (.putfield 21, 3) := by decide +kernel
theorem dX14_init_37 : decode cX14_init 37 = .ok (.aload_n 0, 1) := by decide +kernel
theorem dX14_init_38 : decode cX14_init 38 = .ok (.new 9, 3) := by decide +kernel
theorem dX14_init_41 : decode cX14_init 41 = .ok (.dup, 1) := by decide +kernel
theorem dX14_init_42 : decode cX14_init 42 = .ok (.invokespecial 11, 3) := by decide +kernel
theorem dX14_init_45 : decode cX14_init 45 = .ok (.putfield 24, 3) := by decide +kernel
theorem dX14_init_48 : decode cX14_init 48 = .ok (.aload_n 0, 1) := by decide +kernel
theorem dX14_init_49 : decode cX14_init 49 = .ok (.new 9, 3) := by decide +kernel
theorem dX14_init_52 : decode cX14_init 52 = .ok (.dup, 1) := by decide +kernel
theorem dX14_init_53 : decode cX14_init 53 = .ok (.invokespecial 11, 3) := by decide +kernel
theorem dX14_init_56 : decode cX14_init 56 = .ok (.putfield 27, 3) := by decide +kernel
theorem dX14_init_59 : decode cX14_init 59 = .ok (.aload_n 0, 1) := by decide +kernel
theorem dX14_init_60 : decode cX14_init 60 = .ok (.new 9, 3) := by decide +kernel
theorem dX14_init_63 : decode cX14_init 63 = .ok (.dup, 1) := by decide +kernel
theorem dX14_init_64 : decode cX14_init 64 = .ok (.invokespecial 11, 3) := by decide +kernel
theorem dX14_init_67 : decode cX14_init 67 = .ok (.putfield 30, 3) := by decide +kernel
theorem dX14_init_70 : decode cX14_init 70 = .ok (.aload_n 0, 1) := by decide +kernel
theorem dX14_init_71 : decode cX14_init 71 = .ok (.new 9, 3) := by decide +kernel
theorem dX14_init_74 : decode cX14_init 74 = .ok (.dup, 1) := by decide +kernel
theorem dX14_init_75 : decode cX14_init 75 = .ok (.invokespecial 11, 3) := by decide +kernel
theorem dX14_init_78 : decode cX14_init 78 = .ok (.putfield 33, 3) := by decide +kernel
theorem dX14_init_81 : decode cX14_init 81 = .ok (.aload_n 0, 1) := by decide +kernel
theorem dX14_init_82 : decode cX14_init 82 = .ok (.new 9, 3) := by decide +kernel
theorem dX14_init_85 : decode cX14_init 85 = .ok (.dup, 1) := by decide +kernel
theorem dX14_init_86 : decode cX14_init 86 = .ok (.invokespecial 11, 3) := by decide +kernel
theorem dX14_init_89 : decode cX14_init 89 = .ok (.putfield 36, 3) := by decide +kernel
theorem dX14_init_92 : decode cX14_init 92 = .ok (.aload_n 0, 1) := by decide +kernel
theorem dX14_init_93 : decode cX14_init 93 = .ok (.new 9, 3) := by decide +kernel
theorem dX14_init_96 : decode cX14_init 96 = .ok (.dup, 1) := by decide +kernel
theorem dX14_init_97 : decode cX14_init 97 = .ok (.invokespecial 11, 3) := by decide +kernel
theorem dX14_init_100 : decode cX14_init 100 = .ok (.putfield 39, 3) := by decide +kernel
theorem dX14_init_103 : decode cX14_init 103 = .ok (.aload_n 0, 1) := by decide +kernel
theorem dX14_init_104 : decode cX14_init 104 = .ok (.bipush 10, 2) := by decide +kernel
theorem dX14_init_106 : decode cX14_init 106 = .ok (.putfield 42, 3) := by decide +kernel
theorem dX14_init_109 : decode cX14_init 109 = .ok (.aload_n 0, 1) := by decide +kernel
theorem dX14_init_110 : decode cX14_init 110 = .ok (.bipush 100, 2) := by decide +kernel
theorem dX14_init_112 : decode cX14_init 112 = .ok (.putfield 46, 3) := by decide +kernel
theorem dX14_init_115 : decode cX14_init 115 = .ok (.aload_n 0, 1) := by decide +kernel
theorem dX14_init_116 : decode cX14_init 116 = .ok (.bipush 50, 2) := by decide +kernel
theorem dX14_init_118 : decode cX14_init 118 = .ok (.putfield 49, 3) := by decide +kernel
theorem dX14_init_121 : decode cX14_init 121 = .ok (.aload_n 0, 1) := by decide +kernel
theorem dX14_init_122 : decode cX14_init 122 = .ok (.iconst 0, 1) := by decide +kernel
theorem dX14_init_123 : decode cX14_init 123 = .ok (.putfield 52, 3) := by decide +kernel
theorem dX14_init_126 : decode cX14_init 126 = .ok (.aload_n 0, 1) := by decide +kernel
theorem dX14_init_127 : decode cX14_init 127 = .ok (.iconst 0, 1) := by decide +kernel
theorem dX14_init_128 : decode cX14_init 128 = .ok (.putfield 55, 3) := by decide +kernel
theorem dX14_init_131 : decode cX14_init 131 = .ok (.return_, 1) := by decide +kernel
set_option maxRecDepth 20000 in
theorem ggX14_copy_X14_init : GoodIn wsX14_copy wsX14_init := goodIn_r _ [48, 49, 50, 51, 52, 53, 54, 4, 5, 6, 8, 16, 24, 32, 7, 55, 41, 42, 43, 44, 45, 56, 57, 58, 59, 60, 61, 62, 63, 64, 65, 66, 67, 68, 69, 70, 220, 221, 222, 192, 193, 194, 195, 196, 197, 198, 199, 200, 201, 202, 203, 204, 205] (by decide +kernel) (by decide +kernel)
set_option maxRecDepth 20000 in
theorem gX14_copy_X14_init : GoodIn wsX14_copy (wsX14_init) := ggX14_copy_X14_init
set_option maxRecDepth 20000 in
theorem ggX14_copy_Jx4a65c_addAll_f0b43 : GoodIn wsX14_copy wsJx4a65c_addAll_f0b43 := goodIn_r _ [74, 75, 76, 60, 77, 78, 79, 80, 81, 82, 83, 84, 54, 85, 86, 87, 88, 89, 90, 91, 92, 93, 94, 95, 96, 97, 98, 99, 100, 101, 102, 103, 104, 105, 106, 107, 59, 108, 109, 110, 111, 112, 113, 114, 115, 116, 117, 118, 119, 120, 220, 221, 222] (by decide +kernel) (by decide +kernel)
set_option maxRecDepth 20000 in
theorem gX14_copy_Jx4a65c_addAll_f0b43_f60Jx4a65c : GoodIn wsX14_copy (va_wsF RX14 60 RJx4a65c ⟨"java/util/List", "addAll", "(Ljava/util/Collection;)Z"⟩ yJx4a65c_addAll_f0b43 wsJx4a65c_addAll_f0b43) := goodIn_app (goodIn_of _ (by decide +kernel)) ggX14_copy_Jx4a65c_addAll_f0b43
set_option maxRecDepth 20000 in
theorem ggX14_copy_Jx4a65c_iterator_32c93 : GoodIn wsX14_copy wsJx4a65c_iterator_32c93 := goodIn_r _ [124, 125, 126, 127, 128, 129, 130, 131, 132, 50, 51, 133, 134, 76, 135, 223, 224, 225, 226, 220, 221, 222] (by decide +kernel) (by decide +kernel)
set_option maxRecDepth 20000 in
theorem gX14_copy_Jx4a65c_iterator_32c93_f66Jx4a65c : GoodIn wsX14_copy (va_wsF RX14 66 RJx4a65c ⟨"java/util/List", "iterator", "()Ljava/util/Iterator;"⟩ yJx4a65c_iterator_32c93 wsJx4a65c_iterator_32c93) := goodIn_app (goodIn_of _ (by decide +kernel)) ggX14_copy_Jx4a65c_iterator_32c93
set_option maxRecDepth 20000 in
theorem ggX14_copy_Jx35411_hasNext_aae02 : GoodIn wsX14_copy wsJx35411_hasNext_aae02 := goodIn_r _ [139, 140, 131, 223, 224, 225, 226, 220, 221, 222] (by decide +kernel) (by decide +kernel)
set_option maxRecDepth 20000 in
theorem gX14_copy_Jx35411_hasNext_aae02_f70Jx35411 : GoodIn wsX14_copy (va_wsF RX14 70 RJx35411 ⟨"java/util/Iterator", "hasNext", "()Z"⟩ yJx35411_hasNext_aae02 wsJx35411_hasNext_aae02) := goodIn_app (goodIn_of _ (by decide +kernel)) ggX14_copy_Jx35411_hasNext_aae02
set_option maxRecDepth 20000 in
theorem ggX14_copy_Jx35411_next_0502b : GoodIn wsX14_copy wsJx35411_next_0502b := goodIn_r _ [144, 140, 131, 145, 133, 146, 147, 148, 127, 149, 134, 76, 135, 223, 224, 225, 226, 220, 221, 222] (by decide +kernel) (by decide +kernel)
set_option maxRecDepth 20000 in
theorem gX14_copy_Jx35411_next_0502b_f76Jx35411 : GoodIn wsX14_copy (va_wsF RX14 76 RJx35411 ⟨"java/util/Iterator", "next", "()Ljava/lang/Object;"⟩ yJx35411_next_0502b wsJx35411_next_0502b) := goodIn_app (goodIn_of _ (by decide +kernel)) ggX14_copy_Jx35411_next_0502b
set_option maxRecDepth 20000 in
theorem ggX14_copy_X11_init : GoodIn wsX14_copy wsX11_init := goodIn_r _ [152, 153, 50, 51, 154, 155, 156, 206, 207, 208] (by decide +kernel) (by decide +kernel)
set_option maxRecDepth 20000 in
theorem gX14_copy_X11_init : GoodIn wsX14_copy (wsX11_init) := ggX14_copy_X11_init
set_option maxRecDepth 20000 in
theorem ggX14_copy_Jx4a65c_add_9ea2d : GoodIn wsX14_copy wsJx4a65c_add_9ea2d := goodIn_r _ [160, 75, 76, 60, 77, 161, 162, 163, 54, 164, 165, 166, 167, 168, 104, 105, 106, 107, 59, 108, 109, 101, 110, 111, 112, 113, 114, 115, 116, 117, 118, 119, 120, 86, 87, 88, 89, 90, 91, 92, 93, 94, 95, 96, 97, 98, 99, 100, 102, 103, 79, 80, 81, 220, 221, 222] (by decide +kernel) (by decide +kernel)
set_option maxRecDepth 20000 in
theorem gX14_copy_Jx4a65c_add_9ea2d_f94Jx4a65c : GoodIn wsX14_copy (va_wsF RX14 94 RJx4a65c ⟨"java/util/List", "add", "(Ljava/lang/Object;)Z"⟩ yJx4a65c_add_9ea2d wsJx4a65c_add_9ea2d) := goodIn_app (goodIn_of _ (by decide +kernel)) ggX14_copy_Jx4a65c_add_9ea2d
set_option maxRecDepth 20000 in
theorem ggX14_copy_X10_init : GoodIn wsX14_copy wsX10_init := goodIn_r _ [171, 172, 50, 51, 173, 174, 175, 176, 209, 210, 211, 212] (by decide +kernel) (by decide +kernel)
set_option maxRecDepth 20000 in
theorem gX14_copy_X10_init : GoodIn wsX14_copy (wsX10_init) := ggX14_copy_X10_init
set_option maxRecDepth 20000 in
theorem ggX14_copy_X12_init : GoodIn wsX14_copy wsX12_init := goodIn_r _ [179, 180, 50, 51, 181, 182, 183, 213, 214, 215] (by decide +kernel) (by decide +kernel)
set_option maxRecDepth 20000 in
theorem gX14_copy_X12_init : GoodIn wsX14_copy (wsX12_init) := ggX14_copy_X12_init
set_option maxRecDepth 20000 in
theorem ggX14_copy_X13_init : GoodIn wsX14_copy wsX13_init := goodIn_r _ [186, 187, 50, 51, 188, 189, 190, 191, 216, 217, 218, 219] (by decide +kernel) (by decide +kernel)
set_option maxRecDepth 20000 in
theorem gX14_copy_X13_init : GoodIn wsX14_copy (wsX13_init) := ggX14_copy_X13_init
theorem dX14_copy_0 : decode cX14_copy 0 = .ok (.new 13, 3) := by decide +kernel
theorem dX14_copy_3 : decode cX14_copy 3 = .ok (.dup, 1) := by decide +kernel
theorem dX14_copy_4 : decode cX14_copy 4 = .ok (.invokespecial 59, 3) := by decide +kernel
theorem dX14_copy_7 : decode cX14_copy 7 = .ok (.astore_n 1, 1) := by decide +kernel
theorem dX14_copy_8 : decode cX14_copy 8 = .ok (.aload_n 1, 1) := by decide +kernel
theorem dX14_copy_9 : decode cX14_copy 9 = .ok (.getfield 12, 3) := by decide +kernel
theorem dX14_copy_12 : decode cX14_copy 12 = .ok (.aload_n 0, 1) := by decide +kernel
theorem dX14_copy_13 : decode cX14_copy 13 = .ok (.getfield 12, 3) := by decide +kernel
theorem dX14_copy_16 : decode cX14_copy 16 = .ok (.invokeinterface 60 2, 5) := by decide +kernel
theorem dX14_copy_21 : decode cX14_copy 21 = .ok (.pop, 1) := by decide +kernel
theorem dX14_copy_22 : decode cX14_copy 22 = .ok (.aload_n 1, 1) := by decide +kernel
theorem dX14_copy_23 : decode cX14_copy 23 = .ok (.getfield 18, 3) := by decide +kernel
theorem dX14_copy_26 : decode cX14_copy 26 = .ok (.aload_n 0, 1) := by decide +kernel
theorem dX14_copy_27 : decode cX14_copy 27 = .ok (.getfield 18, 3) := by decide +kernel
theorem dX14_copy_30 : decode cX14_copy 30 = .ok (.invokeinterface 60 2, 5) := by decide +kernel
theorem dX14_copy_35 : decode cX14_copy 35 = .ok (.pop, 1) := by decide +kernel
theorem dX14_copy_36 : decode cX14_copy 36 = .ok (.aload_n 1, 1) := by decide +kernel
theorem dX14_copy_37 : decode cX14_copy 37 = .ok (.getfield 21, 3) := by decide +kernel
theorem dX14_copy_40 : decode cX14_copy 40 = .ok (.aload_n 0, 1) := by decide +kernel
theorem dX14_copy_41 : decode cX14_copy 41 = .ok (.getfield 21, 3) := by decide +kernel
theorem dX14_copy_44 : decode cX14_copy 44 = .ok (.invokeinterface 60 2, 5) := by decide +kernel
theorem dX14_copy_49 : decode cX14_copy 49 = .ok (.pop, 1) := by decide +kernel
theorem dX14_copy_50 : decode cX14_copy 50 = .ok (.aload_n 1, 1) := by decide +kernel
theorem dX14_copy_51 : decode cX14_copy 51 = .ok (.getfield 36, 3) := by decide +kernel
theorem dX14_copy_54 : decode cX14_copy 54 = .ok (.aload_n 0, 1) := by decide +kernel
theorem dX14_copy_55 : decode cX14_copy 55 = .ok (.getfield 36, 3) := by decide +kernel
theorem dX14_copy_58 : decode cX14_copy 58 = .ok (.invokeinterface 60 2, 5) := by decide +kernel
theorem dX14_copy_63 : decode cX14_copy 63 = .ok (.pop, 1) := by decide +kernel
theorem dX14_copy_64 : decode cX14_copy 64 = .ok (.aload_n 0, 1) := by decide +kernel
theorem dX14_copy_65 : decode cX14_copy 65 = .ok (.getfield 24, 3) := by decide +kernel
theorem dX14_copy_68 : decode cX14_copy 68 = .ok (.invokeinterface 66 1, 5) := by decide +kernel
theorem dX14_copy_73 : decode cX14_copy 73 = .ok (.astore_n 2, 1) := by decide +kernel
theorem dX14_copy_74 : decode cX14_copy 74 = .ok (.aload_n 2, 1) := by decide +kernel
theorem dX14_copy_75 : decode cX14_copy 75 = .ok (.invokeinterface 70 1, 5) := by decide +kernel
theorem dX14_copy_80 : decode cX14_copy 80 = .ok (.ifCond .eq 54, 3) := by decide +kernel
theorem dX14_copy_83 : decode cX14_copy 83 = .ok (.aload_n 2, 1) := by decide +kernel
theorem dX14_copy_84 : decode cX14_copy 84 = .ok (.invokeinterface 76 1, 5) := by decide +kernel
theorem dX14_copy_89 : decode cX14_copy 89 = .ok (.checkcast 80, 3) := by decide +kernel
theorem dX14_copy_92 : decode cX14_copy 92 = .ok (.astore_n 3, 1) := by decide +kernel
theorem dX14_copy_93 : decode cX14_copy 93 = .ok (.new 80, 3) := by decide +kernel
theorem dX14_copy_96 : decode cX14_copy 96 = .ok (.dup, 1) := by decide +kernel
theorem dX14_copy_97 : decode cX14_copy 97 = .ok (.aload_n 3, 1) := by decide +kernel
theorem dX14_copy_98 : decode cX14_copy 98 = .ok (.getfield 82, 3) := by decide +kernel
theorem dX14_copy_101 : decode cX14_copy 101 = .ok (.aload_n 3, 1) := by decide +kernel
theorem dX14_copy_102 : decode cX14_copy 102 = .ok (.getfield 85, 3) := by decide +kernel
theorem dX14_copy_105 : decode cX14_copy 105 = .ok (.invokespecial 88, 3) := by decide +kernel
theorem dX14_copy_108 : decode cX14_copy 108 = .ok (.astore 4, 2) := by decide +kernel
theorem dX14_copy_110 : decode cX14_copy 110 = .ok (.aload 4, 2) := by decide +kernel
theorem dX14_copy_112 : decode cX14_copy 112 = .ok (.aload_n 3, 1) := by decide +kernel
theorem dX14_copy_113 : decode cX14_copy 113 = .ok (.getfield 91, 3) := by decide +kernel
theorem dX14_copy_116 : decode cX14_copy 116 = .ok (.putfield 91, 3) := by decide +kernel
theorem dX14_copy_119 : decode cX14_copy 119 = .ok (.aload_n 1, 1) := by decide +kernel
theorem dX14_copy_120 : decode cX14_copy 120 = .ok (.getfield 24, 3) := by decide +kernel
theorem dX14_copy_123 : decode cX14_copy 123 = .ok (.aload 4, 2) := by decide +kernel
theorem dX14_copy_125 : decode cX14_copy 125 = .ok (.invokeinterface 94 2, 5) := by decide +kernel
theorem dX14_copy_130 : decode cX14_copy 130 = .ok (.pop, 1) := by decide +kernel
theorem dX14_copy_131 : decode cX14_copy 131 = .ok (.goto (-57), 3) := by decide +kernel
theorem dX14_copy_134 : decode cX14_copy 134 = .ok (.aload_n 0, 1) := by decide +kernel
theorem dX14_copy_135 : decode cX14_copy 135 = .ok (.getfield 27, 3) := by decide +kernel
theorem dX14_copy_138 : decode cX14_copy 138 = .ok (.invokeinterface 66 1, 5) := by decide +kernel
theorem dX14_copy_143 : decode cX14_copy 143 = .ok (.astore_n 2, 1) := by decide +kernel
theorem dX14_copy_144 : decode cX14_copy 144 = .ok (.aload_n 2, 1) := by decide +kernel
theorem dX14_copy_145 : decode cX14_copy 145 = .ok (.invokeinterface 70 1, 5) := by decide +kernel
theorem dX14_copy_150 : decode cX14_copy 150 = .ok (.ifCond .eq 54, 3) := by decide +kernel
theorem dX14_copy_153 : decode cX14_copy 153 = .ok (.aload_n 2, 1) := by decide +kernel
theorem dX14_copy_154 : decode cX14_copy 154 = .ok (.invokeinterface 76 1, 5) := by decide +kernel
theorem dX14_copy_159 : decode cX14_copy 159 = .ok (.checkcast 98, 3) := by decide +kernel
theorem dX14_copy_162 : decode cX14_copy 162 = .ok (.astore_n 3, 1) := by decide +kernel
theorem dX14_copy_163 : decode cX14_copy 163 = .ok (.new 98, 3) := by decide +kernel
theorem dX14_copy_166 : decode cX14_copy 166 = .ok (.dup, 1) := by decide +kernel
theorem dX14_copy_167 : decode cX14_copy 167 = .ok (.aload_n 3, 1) := by decide +kernel
theorem dX14_copy_168 : decode cX14_copy 168 = .ok (.getfield 100, 3) := by decide +kernel
theorem dX14_copy_171 : decode cX14_copy 171 = .ok (.aload_n 3, 1) := by decide +kernel
theorem dX14_copy_172 : decode cX14_copy 172 = .ok (.getfield 104, 3) := by decide +kernel
theorem dX14_copy_175 : decode cX14_copy 175 = .ok (.invokespecial 107, 3) := by decide +kernel
theorem dX14_copy_178 : decode cX14_copy 178 = .ok (.astore 4, 2) := by decide +kernel
theorem dX14_copy_180 : decode cX14_copy 180 = .ok (.aload 4, 2) := by decide +kernel
theorem dX14_copy_182 : decode cX14_copy 182 = .ok (.aload_n 3, 1) := by decide +kernel
theorem dX14_copy_183 : decode cX14_copy 183 = .ok (.getfield 110, 3) := by decide +kernel
theorem dX14_copy_186 : decode cX14_copy 186 = .ok (.putfield 110, 3) := by decide +kernel
theorem dX14_copy_189 : decode cX14_copy 189 = .ok (.aload_n 1, 1) := by decide +kernel
theorem dX14_copy_190 : decode cX14_copy 190 = .ok (.getfield 27, 3) := by decide +kernel
theorem dX14_copy_193 : decode cX14_copy 193 = .ok (.aload 4, 2) := by decide +kernel
theorem dX14_copy_195 : decode cX14_copy 195 = .ok (.invokeinterface 94 2, 5) := by decide +kernel
theorem dX14_copy_200 : decode cX14_copy 200 = .ok (.pop, 1) := by decide +kernel
theorem dX14_copy_201 : decode cX14_copy 201 = .ok (.goto (-57), 3) := by decide +kernel
theorem dX14_copy_204 : decode cX14_copy 204 = .ok (.aload_n 0, 1) := by decide +kernel
theorem dX14_copy_205 : decode cX14_copy 205 = .ok (.getfield 30, 3) := by decide +kernel
theorem dX14_copy_208 : decode cX14_copy 208 = .ok (.invokeinterface 66 1, 5) := by decide +kernel
theorem dX14_copy_213 : decode cX14_copy 213 = .ok (.astore_n 2, 1) := by decide +kernel
theorem dX14_copy_214 : decode cX14_copy 214 = .ok (.aload_n 2, 1) := by decide +kernel
theorem dX14_copy_215 : decode cX14_copy 215 = .ok (.invokeinterface 70 1, 5) := by decide +kernel
theorem dX14_copy_220 : decode cX14_copy 220 = .ok (.ifCond .eq 59, 3) := by decide +kernel
theorem dX14_copy_223 : decode cX14_copy 223 = .ok (.aload_n 2, 1) := by decide +kernel
theorem dX14_copy_224 : decode cX14_copy 224 = .ok (.invokeinterface 76 1, 5) := by decide +kernel
theorem dX14_copy_229 : decode cX14_copy 229 = .ok (.checkcast 113, 3) := by decide +kernel
theorem dX14_copy_232 : decode cX14_copy 232 = .ok (.astore_n 3, 1) := by decide +kernel
theorem dX14_copy_233 : decode cX14_copy 233 = .ok (.new 113, 3) := by decide +kernel
theorem dX14_copy_236 : decode cX14_copy 236 = .ok (.dup, 1) := by decide +kernel
theorem dX14_copy_237 : decode cX14_copy 237 = .ok (.aload_n 3, 1) := by decide +kernel
theorem dX14_copy_238 : decode cX14_copy 238 = .ok (.getfield 115, 3) := by decide +kernel
theorem dX14_copy_241 : decode cX14_copy 241 = .ok (.invokespecial 116, 3) := by decide +kernel
theorem dX14_copy_244 : decode cX14_copy 244 = .ok (.astore 4, 2) := by decide +kernel
theorem dX14_copy_246 : decode cX14_copy 246 = .ok (.aload 4, 2) := by decide +kernel
theorem dX14_copy_248 : decode cX14_copy 248 = .ok (.aload_n 3, 1) := by decide +kernel
theorem dX14_copy_249 : decode cX14_copy 249 = .ok (.getfield 119, 3) := by decide +kernel
theorem dX14_copy_252 : decode cX14_copy 252 = .ok (.putfield 119, 3) := by decide +kernel
theorem dX14_copy_255 : decode cX14_copy 255 = .ok (.aload 4, 2) := by decide +kernel
theorem dX14_copy_257 : decode cX14_copy 257 = .ok (.aload_n 3, 1) := by decide +kernel
theorem dX14_copy_258 : decode cX14_copy 258 = .ok (.getfield 122, 3) := by decide +kernel
theorem dX14_copy_261 : decode cX14_copy 261 = .ok (.putfield 122, 3) := by decide +kernel
theorem dX14_copy_264 : decode cX14_copy 264 = .ok (.aload_n 1, 1) := by decide +kernel
theorem dX14_copy_265 : decode cX14_copy 265 = .ok (.getfield 30, 3) := by decide +kernel
theorem dX14_copy_268 : decode cX14_copy 268 = .ok (.aload 4, 2) := by decide +kernel
theorem dX14_copy_270 : decode cX14_copy 270 = .ok (.invokeinterface 94 2, 5) := by decide +kernel
theorem dX14_copy_275 : decode cX14_copy 275 = .ok (.pop, 1) := by decide +kernel
theorem dX14_copy_276 : decode cX14_copy 276 = .ok (.goto (-62), 3) := by decide +kernel
theorem dX14_copy_279 : decode cX14_copy 279 = .ok (.aload_n 0, 1) := by decide +kernel
theorem dX14_copy_280 : decode cX14_copy 280 = .ok (.getfield 33, 3) := by decide +kernel
theorem dX14_copy_283 : decode cX14_copy 283 = .ok (.invokeinterface 66 1, 5) := by decide +kernel
theorem dX14_copy_288 : decode cX14_copy 288 = .ok (.astore_n 2, 1) := by decide +kernel
theorem dX14_copy_289 : decode cX14_copy 289 = .ok (.aload_n 2, 1) := by decide +kernel
theorem dX14_copy_290 : decode cX14_copy 290 = .ok (.invokeinterface 70 1, 5) := by decide +kernel
theorem dX14_copy_295 : decode cX14_copy 295 = .ok (.ifCond .eq 63, 3) := by decide +kernel
theorem dX14_copy_298 : decode cX14_copy 298 = .ok (.aload_n 2, 1) := by decide +kernel
theorem dX14_copy_299 : decode cX14_copy 299 = .ok (.invokeinterface 76 1, 5) := by decide +kernel
theorem dX14_copy_304 : decode cX14_copy 304 = .ok (.checkcast 125, 3) := by decide +kernel
theorem dX14_copy_307 : decode cX14_copy 307 = .ok (.astore_n 3, 1) := by decide +kernel
theorem dX14_copy_308 : decode cX14_copy 308 = .ok (.new 125, 3) := by decide +kernel
theorem dX14_copy_311 : decode cX14_copy 311 = .ok (.dup, 1) := by decide +kernel
theorem dX14_copy_312 : decode cX14_copy 312 = .ok (.aload_n 3, 1) := by decide +kernel
theorem dX14_copy_313 : decode cX14_copy 313 = .ok (.getfield 127, 3) := by decide +kernel
theorem dX14_copy_316 : decode cX14_copy 316 = .ok (.aload_n 3, 1) := by decide +kernel
theorem dX14_copy_317 : decode cX14_copy 317 = .ok (.getfield 130, 3) := by decide +kernel
theorem dX14_copy_320 : decode cX14_copy 320 = .ok (.invokespecial 131, 3) := by decide +kernel
theorem dX14_copy_323 : decode cX14_copy 323 = .ok (.astore 4, 2) := by decide +kernel
theorem dX14_copy_325 : decode cX14_copy 325 = .ok (.aload 4, 2) := by decide +kernel
theorem dX14_copy_327 : decode cX14_copy 327 = .ok (.aload_n 3, 1) := by decide +kernel
theorem dX14_copy_328 : decode cX14_copy 328 = .ok (.getfield 132, 3) := by decide +kernel
theorem dX14_copy_331 : decode cX14_copy 331 = .ok (.putfield 132, 3) := by decide +kernel
theorem dX14_copy_334 : decode cX14_copy 334 = .ok (.aload 4, 2) := by decide +kernel
theorem dX14_copy_336 : decode cX14_copy 336 = .ok (.aload_n 3, 1) := by decide +kernel
theorem dX14_copy_337 : decode cX14_copy 337 = .ok (.getfield 135, 3) := by decide +kernel
theorem dX14_copy_340 : decode cX14_copy 340 = .ok (.putfield 135, 3) := by decide +kernel
theorem dX14_copy_343 : decode cX14_copy 343 = .ok (.aload_n 1, 1) := by decide +kernel
theorem dX14_copy_344 : decode cX14_copy 344 = .ok (.getfield 33, 3) := by decide +kernel
theorem dX14_copy_347 : decode cX14_copy 347 = .ok (.aload 4, 2) := by decide +kernel
theorem dX14_copy_349 : decode cX14_copy 349 = .ok (.invokeinterface 94 2, 5) := by decide +kernel
theorem dX14_copy_354 : decode cX14_copy 354 = .ok (.pop, 1) := by decide +kernel
theorem dX14_copy_355 : decode cX14_copy 355 = .ok (.goto (-66), 3) := by decide +kernel
theorem dX14_copy_358 : decode cX14_copy 358 = .ok (.aload_n 1, 1) := by decide +kernel
theorem dX14_copy_359 : decode cX14_copy 359 = .ok (.aload_n 0, 1) := by decide +kernel
theorem dX14_copy_360 : decode cX14_copy 360 = .ok (.getfield 42, 3) := by decide +kernel
theorem dX14_copy_363 : decode cX14_copy 363 = .ok (.putfield 42, 3) := by decide +kernel
theorem dX14_copy_366 : decode cX14_copy 366 = .ok (.aload_n 1, 1) := by decide +kernel
theorem dX14_copy_367 : decode cX14_copy 367 = .ok (.aload_n 0, 1) := by decide +kernel
theorem dX14_copy_368 : decode cX14_copy 368 = .ok (.getfield 46, 3) := by decide +kernel
theorem dX14_copy_371 : decode cX14_copy 371 = .ok (.putfield 46, 3) := by decide +kernel
theorem dX14_copy_374 : decode cX14_copy 374 = .ok (.aload_n 1, 1) := by decide +kernel
theorem dX14_copy_375 : decode cX14_copy 375 = .ok (.aload_n 0, 1) := by decide +kernel
theorem dX14_copy_376 : decode cX14_copy 376 = .ok (.getfield 49, 3) := by decide +kernel
theorem dX14_copy_379 : decode cX14_copy 379 = .ok (.putfield 49, 3) := by decide +kernel
theorem dX14_copy_382 : decode cX14_copy 382 = .ok (.aload_n 1, 1) := by decide +kernel
theorem dX14_copy_383 : decode cX14_copy 383 = .ok (.aload_n 0, 1) := by decide +kernel
theorem dX14_copy_384 : decode cX14_copy 384 = .ok (.getfield 52, 3) := by decide +kernel
theorem dX14_copy_387 : decode cX14_copy 387 = .ok (.putfield 52, 3) := by decide +kernel
theorem dX14_copy_390 : decode cX14_copy 390 = .ok (.aload_n 1, 1) := by decide +kernel
theorem dX14_copy_391 : decode cX14_copy 391 = .ok (.aload_n 0, 1) := by decide +kernel
theorem dX14_copy_392 : decode cX14_copy 392 = .ok (.getfield 55, 3) := by decide +kernel
theorem dX14_copy_395 : decode cX14_copy 395 = .ok (.putfield 55, 3) := by decide +kernel
theorem dX14_copy_398 : decode cX14_copy 398 = .ok (.aload_n 1, 1) := by decide +kernel
theorem dX14_copy_399 : decode cX14_copy 399 = .ok (.areturn, 1) := by decide +kernel
set_option maxRecDepth 20000 in
theorem ggX14_alive_Jx4a65c_iterator_32c93 : GoodIn wsX14_alive wsJx4a65c_iterator_32c93 := goodIn_r _ [8, 9, 10, 11, 12, 13, 14, 15, 16, 17, 18, 19, 20, 21, 22, 54, 55, 56, 57, 58, 59, 60] (by decide +kernel) (by decide +kernel)
set_option maxRecDepth 20000 in
theorem gX14_alive_Jx4a65c_iterator_32c93_f66Jx4a65c : GoodIn wsX14_alive (va_wsF RX14 66 RJx4a65c ⟨"java/util/List", "iterator", "()Ljava/util/Iterator;"⟩ yJx4a65c_iterator_32c93 wsJx4a65c_iterator_32c93) := goodIn_app (goodIn_of _ (by decide +kernel)) ggX14_alive_Jx4a65c_iterator_32c93
set_option maxRecDepth 20000 in
theorem ggX14_alive_Jx35411_hasNext_aae02 : GoodIn wsX14_alive wsJx35411_hasNext_aae02 := goodIn_r _ [26, 27, 15, 54, 55, 56, 57, 58, 59, 60] (by decide +kernel) (by decide +kernel)
set_option maxRecDepth 20000 in
theorem gX14_alive_Jx35411_hasNext_aae02_f70Jx35411 : GoodIn wsX14_alive (va_wsF RX14 70 RJx35411 ⟨"java/util/Iterator", "hasNext", "()Z"⟩ yJx35411_hasNext_aae02 wsJx35411_hasNext_aae02) := goodIn_app (goodIn_of _ (by decide +kernel)) ggX14_alive_Jx35411_hasNext_aae02
set_option maxRecDepth 20000 in
theorem ggX14_alive_Jx35411_next_0502b : GoodIn wsX14_alive wsJx35411_next_0502b := goodIn_r _ [31, 27, 15, 32, 19, 33, 34, 35, 11, 36, 20, 21, 22, 54, 55, 56, 57, 58, 59, 60] (by decide +kernel) (by decide +kernel)
set_option maxRecDepth 20000 in
theorem gX14_alive_Jx35411_next_0502b_f76Jx35411 : GoodIn wsX14_alive (va_wsF RX14 76 RJx35411 ⟨"java/util/Iterator", "next", "()Ljava/lang/Object;"⟩ yJx35411_next_0502b wsJx35411_next_0502b) := goodIn_app (goodIn_of _ (by decide +kernel)) ggX14_alive_Jx35411_next_0502b
theorem dX14_alive_0 : decode cX14_alive 0 = .ok (.iconst 0, 1) := by decide +kernel
theorem dX14_alive_1 : decode cX14_alive 1 = .ok (.istore_n 1, 1) := by decide +kernel
theorem dX14_alive_2 : decode cX14_alive 2 = .ok (.aload_n 0, 1) := by decide +kernel
theorem dX14_alive_3 : decode cX14_alive 3 = .ok (.getfield 30, 3) := by decide +kernel
theorem dX14_alive_6 : decode cX14_alive 6 = .ok (.invokeinterface 66 1, 5) := by decide +kernel
theorem dX14_alive_11 : decode cX14_alive 11 = .ok (.astore_n 2, 1) := by decide +kernel
theorem dX14_alive_12 : decode cX14_alive 12 = .ok (.aload_n 2, 1) := by decide +kernel
theorem dX14_alive_13 : decode cX14_alive 13 = .ok (.invokeinterface 70 1, 5) := by decide +kernel
theorem dX14_alive_18 : decode cX14_alive 18 = .ok (.ifCond .eq 32, 3) := by decide +kernel
theorem dX14_alive_21 : decode cX14_alive 21 = .ok (.aload_n 2, 1) := by decide +kernel
theorem dX14_alive_22 : decode cX14_alive 22 = .ok (.invokeinterface 76 1, 5) := by decide +kernel
theorem dX14_alive_27 : decode cX14_alive 27 = .ok (.checkcast 113, 3) := by decide +kernel
theorem dX14_alive_30 : decode cX14_alive 30 = .ok (.astore_n 3, 1) := by decide +kernel
theorem dX14_alive_31 : decode cX14_alive 31 = .ok (.iload_n 1, 1) := by decide +kernel
theorem dX14_alive_32 : decode cX14_alive 32 = .ok (.aload_n 3, 1) := by decide +kernel
theorem dX14_alive_33 : decode cX14_alive 33 = .ok (.getfield 115, 3) := by decide +kernel
theorem dX14_alive_36 : decode cX14_alive 36 = .ok (.iconst (-1), 1) := by decide +kernel
theorem dX14_alive_37 : decode cX14_alive 37 = .ok (.if_icmp .ne 7, 3) := by decide +kernel
theorem dX14_alive_40 : decode cX14_alive 40 = .ok (.iconst 0, 1) := by decide +kernel
theorem dX14_alive_41 : decode cX14_alive 41 = .ok (.goto 4, 3) := by decide +kernel
theorem dX14_alive_44 : decode cX14_alive 44 = .ok (.iconst 1, 1) := by decide +kernel
theorem dX14_alive_45 : decode cX14_alive 45 = .ok (.iadd, 1) := by decide +kernel
theorem dX14_alive_46 : decode cX14_alive 46 = .ok (.istore_n 1, 1) := by decide +kernel
theorem dX14_alive_47 : decode cX14_alive 47 = .ok (.goto (-35), 3) := by decide +kernel
theorem dX14_alive_50 : decode cX14_alive 50 = .ok (.iload_n 1, 1) := by decide +kernel
theorem dX14_alive_51 : decode cX14_alive 51 = .ok (.ireturn, 1) := by decide +kernel
set_option maxRecDepth 20000 in
theorem ggX14_add_Jx4a65c_get_915e3 : GoodIn wsX14_add wsJx4a65c_get_915e3 := goodIn_r _ [6, 7, 8, 9, 10, 11, 12, 13, 14, 15, 16, 17, 18, 5, 19, 20, 48, 49, 50] (by decide +kernel) (by decide +kernel)
set_option maxRecDepth 20000 in
theorem gX14_add_Jx4a65c_get_915e3_f138Jx4a65c : GoodIn wsX14_add (va_wsF RX14 138 RJx4a65c ⟨"java/util/List", "get", "(I)Ljava/lang/Object;"⟩ yJx4a65c_get_915e3 wsJx4a65c_get_915e3) := goodIn_app (goodIn_of _ (by decide +kernel)) ggX14_add_Jx4a65c_get_915e3
set_option maxRecDepth 20000 in
theorem ggX14_add_J6_intValue_8abf5 : GoodIn wsX14_add wsJ6_intValue_8abf5 := goodIn_r _ [25, 26, 51] (by decide +kernel) (by decide +kernel)
set_option maxRecDepth 20000 in
theorem gX14_add_J6_intValue_8abf5 : GoodIn wsX14_add (wsV RX14 144 RJ6 yJ6_intValue_8abf5 wsJ6_intValue_8abf5) := goodIn_app (goodIn_of _ (by decide +kernel)) ggX14_add_J6_intValue_8abf5
set_option maxRecDepth 20000 in
theorem ggX14_add_J6_valueOf_2dffe : GoodIn wsX14_add wsJ6_valueOf_2dffe := goodIn_r _ [29, 30, 31, 32, 33, 24, 34, 35, 36, 26, 37, 38, 39, 40, 41, 42, 43, 51] (by decide +kernel) (by decide +kernel)
set_option maxRecDepth 20000 in
theorem gX14_add_J6_valueOf_2dffe : GoodIn wsX14_add (va_wsS RX14 148 yJ6_valueOf_2dffe wsJ6_valueOf_2dffe) := goodIn_app (goodIn_of _ (by decide +kernel)) ggX14_add_J6_valueOf_2dffe
set_option maxRecDepth 20000 in
theorem ggX14_add_Jx4a65c_set_bcc79 : GoodIn wsX14_add wsJx4a65c_set_bcc79 := goodIn_r _ [47, 7, 20, 8, 9, 10, 11, 12, 13, 14, 15, 16, 17, 18, 5, 19, 48, 49, 50] (by decide +kernel) (by decide +kernel)
set_option maxRecDepth 20000 in
theorem gX14_add_Jx4a65c_set_bcc79_f152Jx4a65c : GoodIn wsX14_add (va_wsF RX14 152 RJx4a65c ⟨"java/util/List", "set", "(ILjava/lang/Object;)Ljava/lang/Object;"⟩ yJx4a65c_set_bcc79 wsJx4a65c_set_bcc79) := goodIn_app (goodIn_of _ (by decide +kernel)) ggX14_add_Jx4a65c_set_bcc79
theorem dX14_add_0 : decode cX14_add 0 = .ok (.aload_n 1, 1) := by decide +kernel
theorem dX14_add_1 : decode cX14_add 1 = .ok (.iload_n 2, 1) := by decide +kernel
theorem dX14_add_2 : decode cX14_add 2 = .ok (.aload_n 1, 1) := by decide +kernel
theorem dX14_add_3 : decode cX14_add 3 = .ok (.iload_n 2, 1) := by decide +kernel
theorem dX14_add_4 : decode cX14_add 4 = .ok (.invokeinterface 138 2, 5) := by decide +kernel
theorem dX14_add_9 : decode cX14_add 9 = .ok (.checkcast 142, 3) := by decide +kernel
theorem dX14_add_12 : decode cX14_add 12 = .ok (.invokevirtual 144, 3) := by decide +kernel
theorem dX14_add_15 : decode cX14_add 15 = .ok (.iload_n 3, 1) := by decide +kernel
theorem dX14_add_16 : decode cX14_add 16 = .ok (.iadd, 1) := by decide +kernel
theorem dX14_add_17 : decode cX14_add 17 = .ok (.invokestatic 148, 3) := by decide +kernel
theorem dX14_add_20 : decode cX14_add 20 = .ok (.invokeinterface 152 3, 5) := by decide +kernel
theorem dX14_add_25 : decode cX14_add 25 = .ok (.pop, 1) := by decide +kernel
theorem dX14_add_26 : decode cX14_add 26 = .ok (.return_, 1) := by decide +kernel
set_option maxRecDepth 20000 in
theorem ggX14_passes_X14_commands : GoodIn wsX14_passes wsX14_commands := goodIn_r _ [21, 16, 22, 23, 24, 25, 26, 27, 28, 29, 30, 31, 32, 33, 34, 35, 36, 37, 38, 39, 40, 41, 42, 43, 44, 45, 46, 47, 48, 49, 50, 51, 52, 53, 54, 55, 56, 57, 58, 59, 60, 61, 62, 63, 64, 65, 66, 67, 68, 69, 70, 71, 72, 73, 74, 75, 76, 77, 78, 79, 80, 81, 82, 83, 84, 85, 86, 87, 88, 89, 90, 91, 92, 93, 94, 95, 96, 6, 97, 98, 99, 100, 101, 102, 103, 104, 105, 106, 107, 108, 109, 110, 111, 112, 113, 114, 115, 116, 117, 118, 119, 120, 121, 5, 7, 122, 123, 124, 125, 20, 126, 127, 128, 129, 130, 131, 8, 9, 10, 239, 240, 241, 242, 243, 244, 245, 246, 247, 248, 249, 250, 251, 252, 259, 260, 261, 262, 263, 264, 265, 266, 267, 268, 269, 270, 253, 254, 255] (by decide +kernel) (by decide +kernel)
set_option maxRecDepth 20000 in
theorem gX14_passes_X14_commands : GoodIn wsX14_passes (wsV RX14 156 RX14 yX14_commands wsX14_commands) := goodIn_app (goodIn_of _ (by decide +kernel)) ggX14_passes_X14_commands
set_option maxRecDepth 20000 in
theorem ggX14_passes_X14_ships : GoodIn wsX14_passes wsX14_ships := goodIn_r _ [135, 136, 137, 138, 139, 140, 141, 26, 142, 143, 144, 30, 145, 146, 147, 148, 149, 150, 151, 152, 153, 75, 76, 154, 155, 59, 156, 157, 158, 159, 160, 161, 162, 163, 164, 165, 166, 167, 168, 169, 170, 64, 65, 66, 67, 68, 69, 70, 71, 72, 73, 74, 77, 78, 79, 80, 81, 58, 49, 32, 82, 83, 84, 85, 86, 87, 88, 89, 90, 91, 92, 93, 94, 95, 96, 6, 97, 98, 99, 100, 101, 102, 103, 104, 105, 106, 107, 108, 109, 110, 111, 112, 113, 114, 115, 116, 117, 118, 119, 120, 121, 5, 7, 122, 61, 62, 63, 239, 240, 241, 242, 243, 244, 245, 246, 247, 248, 249, 250, 251, 252, 271, 272, 273, 274, 275, 276, 277, 278, 263, 264, 265, 266] (by decide +kernel) (by decide +kernel)
set_option maxRecDepth 20000 in
theorem gX14_passes_X14_ships : GoodIn wsX14_passes (wsV RX14 158 RX14 yX14_ships wsX14_ships) := goodIn_app (goodIn_of _ (by decide +kernel)) ggX14_passes_X14_ships
set_option maxRecDepth 20000 in
theorem ggX14_passes_X14_devices : GoodIn wsX14_passes wsX14_devices := goodIn_r _ [174, 175, 16, 176, 128, 130, 131, 177, 178, 11, 179, 3, 4, 5, 6, 7, 140, 1, 142, 143, 144, 30, 145, 146, 147, 148, 149, 150, 151, 152, 153, 75, 76, 154, 155, 59, 156, 157, 158, 159, 160, 161, 162, 163, 164, 165, 166, 167, 168, 169, 170, 180, 181, 182, 183, 184, 185, 33, 34, 35, 36, 32, 37, 38, 39, 40, 41, 42, 43, 44, 45, 46, 47, 48, 49, 186, 187, 188, 189, 190, 191, 192, 193, 194, 20, 195, 196, 197, 198, 199, 200, 201, 202, 203, 204, 205, 206, 207, 208, 209, 210, 211, 212, 213, 214, 239, 240, 241, 242, 243, 244, 245, 246, 247, 248, 249, 250, 251, 252, 267, 268, 269, 270, 275, 276, 277, 278, 263, 264, 265, 279] (by decide +kernel) (by decide +kernel)
set_option maxRecDepth 20000 in
theorem gX14_passes_X14_devices : GoodIn wsX14_passes (wsV RX14 160 RX14 yX14_devices wsX14_devices) := goodIn_app (goodIn_of _ (by decide +kernel)) ggX14_passes_X14_devices
set_option maxRecDepth 20000 in
theorem ggX14_passes_Jx4a65c_size_8abf5 : GoodIn wsX14_passes wsJx4a65c_size_8abf5 := goodIn_r _ [31, 32, 263, 264, 265] (by decide +kernel) (by decide +kernel)
set_option maxRecDepth 20000 in
theorem gX14_passes_Jx4a65c_size_8abf5_f162Jx4a65c : GoodIn wsX14_passes (va_wsF RX14 162 RJx4a65c ⟨"java/util/List", "size", "()I"⟩ yJx4a65c_size_8abf5 wsJx4a65c_size_8abf5) := goodIn_app (goodIn_of _ (by decide +kernel)) ggX14_passes_Jx4a65c_size_8abf5
set_option maxRecDepth 20000 in
theorem ggX14_passes_Jx4a65c_get_915e3 : GoodIn wsX14_passes wsJx4a65c_get_915e3 := goodIn_r _ [36, 32, 37, 38, 39, 40, 41, 42, 43, 44, 45, 46, 47, 30, 48, 49, 263, 264, 265] (by decide +kernel) (by decide +kernel)
set_option maxRecDepth 20000 in
theorem gX14_passes_Jx4a65c_get_915e3_f138Jx4a65c : GoodIn wsX14_passes (va_wsF RX14 138 RJx4a65c ⟨"java/util/List", "get", "(I)Ljava/lang/Object;"⟩ yJx4a65c_get_915e3 wsJx4a65c_get_915e3) := goodIn_app (goodIn_of _ (by decide +kernel)) ggX14_passes_Jx4a65c_get_915e3
set_option maxRecDepth 20000 in
theorem ggX14_passes_J6_intValue_8abf5 : GoodIn wsX14_passes wsJ6_intValue_8abf5 := goodIn_r _ [190, 191, 279] (by decide +kernel) (by decide +kernel)
set_option maxRecDepth 20000 in
theorem gX14_passes_J6_intValue_8abf5 : GoodIn wsX14_passes (wsV RX14 144 RJ6 yJ6_intValue_8abf5 wsJ6_intValue_8abf5) := goodIn_app (goodIn_of _ (by decide +kernel)) ggX14_passes_J6_intValue_8abf5
set_option maxRecDepth 20000 in
theorem ggX14_passes_X14_add : GoodIn wsX14_passes wsX14_add := goodIn_r _ [195, 3, 33, 34, 35, 30, 36, 32, 37, 38, 39, 40, 41, 42, 43, 44, 45, 46, 47, 48, 49, 186, 187, 188, 189, 190, 191, 196, 197, 198, 199, 200, 201, 202, 203, 204, 205, 206, 207, 208, 209, 210, 75, 76, 211, 212, 213, 214, 263, 264, 265, 279] (by decide +kernel) (by decide +kernel)
set_option maxRecDepth 20000 in
theorem gX14_passes_X14_add : GoodIn wsX14_passes (wsV RX14 171 RX14 yX14_add wsX14_add) := goodIn_app (goodIn_of _ (by decide +kernel)) ggX14_passes_X14_add
set_option maxRecDepth 20000 in
theorem ggX14_passes_Jx4a65c_iterator_32c93 : GoodIn wsX14_passes wsJx4a65c_iterator_32c93 := goodIn_r _ [145, 146, 147, 148, 149, 150, 151, 152, 153, 75, 76, 154, 155, 59, 156, 275, 276, 277, 278, 263, 264, 265] (by decide +kernel) (by decide +kernel)
set_option maxRecDepth 20000 in
theorem gX14_passes_Jx4a65c_iterator_32c93_f66Jx4a65c : GoodIn wsX14_passes (va_wsF RX14 66 RJx4a65c ⟨"java/util/List", "iterator", "()Ljava/util/Iterator;"⟩ yJx4a65c_iterator_32c93 wsJx4a65c_iterator_32c93) := goodIn_app (goodIn_of _ (by decide +kernel)) ggX14_passes_Jx4a65c_iterator_32c93
set_option maxRecDepth 20000 in
theorem ggX14_passes_Jx35411_hasNext_aae02 : GoodIn wsX14_passes wsJx35411_hasNext_aae02 := goodIn_r _ [160, 161, 152, 275, 276, 277, 278, 263, 264, 265] (by decide +kernel) (by decide +kernel)
set_option maxRecDepth 20000 in
theorem gX14_passes_Jx35411_hasNext_aae02_f70Jx35411 : GoodIn wsX14_passes (va_wsF RX14 70 RJx35411 ⟨"java/util/Iterator", "hasNext", "()Z"⟩ yJx35411_hasNext_aae02 wsJx35411_hasNext_aae02) := goodIn_app (goodIn_of _ (by decide +kernel)) ggX14_passes_Jx35411_hasNext_aae02
set_option maxRecDepth 20000 in
theorem ggX14_passes_Jx35411_next_0502b : GoodIn wsX14_passes wsJx35411_next_0502b := goodIn_r _ [165, 161, 152, 166, 154, 167, 168, 169, 148, 170, 155, 59, 156, 275, 276, 277, 278, 263, 264, 265] (by decide +kernel) (by decide +kernel)
set_option maxRecDepth 20000 in
theorem gX14_passes_Jx35411_next_0502b_f76Jx35411 : GoodIn wsX14_passes (va_wsF RX14 76 RJx35411 ⟨"java/util/Iterator", "next", "()Ljava/lang/Object;"⟩ yJx35411_next_0502b wsJx35411_next_0502b) := goodIn_app (goodIn_of _ (by decide +kernel)) ggX14_passes_Jx35411_next_0502b
set_option maxRecDepth 20000 in
theorem ggX14_passes_X14_evens : GoodIn wsX14_passes wsX14_evens := goodIn_r _ [218, 219, 3, 220, 33, 34, 35, 30, 36, 32, 37, 38, 39, 40, 41, 42, 43, 44, 45, 46, 47, 48, 49, 186, 187, 188, 189, 190, 191, 192, 193, 194, 20, 195, 196, 197, 198, 199, 200, 201, 202, 203, 204, 205, 206, 207, 208, 209, 210, 75, 76, 211, 212, 213, 214, 253, 254, 255, 263, 264, 265, 279] (by decide +kernel) (by decide +kernel)
set_option maxRecDepth 20000 in
theorem gX14_passes_X14_evens : GoodIn wsX14_passes (wsV RX14 174 RX14 yX14_evens wsX14_evens) := goodIn_app (goodIn_of _ (by decide +kernel)) ggX14_passes_X14_evens
set_option maxRecDepth 20000 in
theorem ggX14_passes_X14_breathes : GoodIn wsX14_passes wsX14_breathes := goodIn_r _ [224, 225, 16, 1, 14, 3, 4, 5, 6, 7, 11, 226, 26, 33, 34, 35, 30, 36, 32, 37, 38, 39, 40, 41, 42, 43, 44, 45, 46, 47, 48, 49, 186, 187, 188, 189, 190, 191, 192, 193, 194, 20, 195, 196, 197, 198, 199, 200, 201, 202, 203, 204, 205, 206, 207, 208, 209, 210, 75, 76, 211, 212, 213, 214, 64, 65, 66, 67, 68, 69, 70, 71, 72, 73, 74, 77, 78, 79, 80, 81, 58, 59, 82, 83, 84, 85, 86, 87, 88, 89, 90, 91, 92, 93, 94, 95, 96, 97, 98, 99, 100, 101, 102, 103, 104, 105, 106, 107, 108, 109, 110, 111, 112, 113, 114, 115, 116, 117, 118, 119, 120, 121, 122, 61, 62, 63, 256, 257, 258, 239, 240, 241, 242, 243, 244, 245, 246, 247, 248, 249, 250, 251, 252, 263, 264, 265, 279, 266] (by decide +kernel) (by decide +kernel)
set_option maxRecDepth 20000 in
theorem gX14_passes_X14_breathes : GoodIn wsX14_passes (wsV RX14 178 RX14 yX14_breathes wsX14_breathes) := goodIn_app (goodIn_of _ (by decide +kernel)) ggX14_passes_X14_breathes
set_option maxRecDepth 20000 in
theorem ggX14_passes_X14_isDanger : GoodIn wsX14_passes wsX14_isDanger := goodIn_r _ [230, 12, 13, 14, 1, 3, 11, 142, 143, 144, 30, 145, 146, 147, 148, 149, 150, 151, 152, 153, 75, 76, 154, 155, 59, 156, 157, 158, 159, 160, 161, 162, 163, 164, 165, 166, 167, 168, 169, 170, 33, 34, 35, 36, 32, 37, 38, 39, 40, 41, 42, 43, 44, 45, 46, 47, 48, 49, 186, 187, 188, 189, 190, 191, 239, 240, 241, 242, 243, 244, 245, 246, 247, 248, 249, 250, 251, 252, 256, 257, 258, 275, 276, 277, 278, 263, 264, 265, 279] (by decide +kernel) (by decide +kernel)
set_option maxRecDepth 20000 in
theorem gX14_passes_X14_isDanger : GoodIn wsX14_passes (wsV RX14 182 RX14 yX14_isDanger wsX14_isDanger) := goodIn_app (goodIn_of _ (by decide +kernel)) ggX14_passes_X14_isDanger
set_option maxRecDepth 20000 in
theorem ggX14_passes_X14_saves : GoodIn wsX14_passes wsX14_saves := goodIn_r _ [234, 15, 26, 22, 128, 130, 131, 178, 12, 13, 225, 64, 65, 66, 67, 68, 69, 70, 71, 72, 73, 74, 75, 76, 77, 78, 79, 80, 30, 81, 58, 59, 49, 32, 82, 83, 84, 85, 86, 87, 88, 89, 90, 91, 92, 93, 94, 95, 96, 6, 97, 98, 99, 100, 101, 102, 103, 104, 105, 106, 107, 108, 109, 110, 111, 112, 113, 114, 115, 116, 117, 118, 119, 120, 121, 5, 7, 122, 61, 62, 63, 235, 236, 237, 238, 142, 143, 144, 145, 146, 147, 148, 149, 150, 151, 152, 153, 154, 155, 156, 157, 158, 159, 160, 161, 162, 163, 164, 165, 166, 167, 168, 169, 170, 239, 240, 241, 242, 243, 244, 245, 246, 247, 248, 249, 250, 251, 252, 267, 268, 269, 270, 256, 257, 258, 266, 263, 264, 265, 275, 276, 277, 278] (by decide +kernel) (by decide +kernel)
set_option maxRecDepth 20000 in
theorem gX14_passes_X14_saves : GoodIn wsX14_passes (wsV RX14 185 RX14 yX14_saves wsX14_saves) := goodIn_app (goodIn_of _ (by decide +kernel)) ggX14_passes_X14_saves
theorem dX14_passes_0 : decode cX14_passes 0 = .ok (.aload_n 0, 1) := by decide +kernel
theorem dX14_passes_1 : decode cX14_passes 1 = .ok (.invokevirtual 156, 3) := by decide +kernel
theorem dX14_passes_4 : decode cX14_passes 4 = .ok (.aload_n 0, 1) := by decide +kernel
theorem dX14_passes_5 : decode cX14_passes 5 = .ok (.invokevirtual 158, 3) := by decide +kernel
theorem dX14_passes_8 : decode cX14_passes 8 = .ok (.aload_n 0, 1) := by decide +kernel
theorem dX14_passes_9 : decode cX14_passes 9 = .ok (.invokevirtual 160, 3) := by decide +kernel
theorem dX14_passes_12 : decode cX14_passes 12 = .ok (.iconst 0, 1) := by decide +kernel
theorem dX14_passes_13 : decode cX14_passes 13 = .ok (.istore_n 1, 1) := by decide +kernel
theorem dX14_passes_14 : decode cX14_passes 14 = .ok (.iload_n 1, 1) := by decide +kernel
theorem dX14_passes_15 : decode cX14_passes 15 = .ok (.aload_n 0, 1) := by decide +kernel
theorem dX14_passes_16 : decode cX14_passes 16 = .ok (.getfield 12, 3) := by decide +kernel
theorem dX14_passes_19 : decode cX14_passes 19 = .ok (.invokeinterface 162 1, 5) := by decide +kernel
theorem dX14_passes_24 : decode cX14_passes 24 = .ok (.if_icmp .ge 54, 3) := by decide +kernel
theorem dX14_passes_27 : decode cX14_passes 27 = .ok (.aload_n 0, 1) := by decide +kernel
theorem dX14_passes_28 : decode cX14_passes 28 = .ok (.aload_n 0, 1) := by decide +kernel
theorem dX14_passes_29 : decode cX14_passes 29 = .ok (.getfield 12, 3) := by decide +kernel
theorem dX14_passes_32 : decode cX14_passes 32 = .ok (.iload_n 1, 1) := by decide +kernel
theorem dX14_passes_33 : decode cX14_passes 33 = .ok (.aload_n 0, 1) := by decide +kernel
theorem dX14_passes_34 : decode cX14_passes 34 = .ok (.getfield 21, 3) := by decide +kernel
theorem dX14_passes_37 : decode cX14_passes 37 = .ok (.iload_n 1, 1) := by decide +kernel
theorem dX14_passes_38 : decode cX14_passes 38 = .ok (.invokeinterface 138 2, 5) := by decide +kernel
theorem dX14_passes_43 : decode cX14_passes 43 = .ok (.checkcast 142, 3) := by decide +kernel
theorem dX14_passes_46 : decode cX14_passes 46 = .ok (.invokevirtual 144, 3) := by decide +kernel
theorem dX14_passes_49 : decode cX14_passes 49 = .ok (.aload_n 0, 1) := by decide +kernel
theorem dX14_passes_50 : decode cX14_passes 50 = .ok (.getfield 12, 3) := by decide +kernel
theorem dX14_passes_53 : decode cX14_passes 53 = .ok (.iload_n 1, 1) := by decide +kernel
theorem dX14_passes_54 : decode cX14_passes 54 = .ok (.invokeinterface 138 2, 5) := by decide +kernel
theorem dX14_passes_59 : decode cX14_passes 59 = .ok (.checkcast 142, 3) := by decide +kernel
theorem dX14_passes_62 : decode cX14_passes 62 = .ok (.invokevirtual 144, 3) := by decide +kernel
theorem dX14_passes_65 : decode cX14_passes 65 = .ok (.invokestatic 165, 3) := by decide +kernel
theorem dX14_passes_68 : decode cX14_passes 68 = .ok (.ineg, 1) := by decide +kernel
theorem dX14_passes_69 : decode cX14_passes 69 = .ok (.invokevirtual 171, 3) := by decide +kernel
theorem dX14_passes_72 : decode cX14_passes 72 = .ok (.iinc 1 1, 3) := by decide +kernel
theorem dX14_passes_75 : decode cX14_passes 75 = .ok (.goto (-61), 3) := by decide +kernel
theorem dX14_passes_78 : decode cX14_passes 78 = .ok (.aload_n 0, 1) := by decide +kernel
theorem dX14_passes_79 : decode cX14_passes 79 = .ok (.getfield 24, 3) := by decide +kernel
theorem dX14_passes_82 : decode cX14_passes 82 = .ok (.invokeinterface 66 1, 5) := by decide +kernel
theorem dX14_passes_87 : decode cX14_passes 87 = .ok (.astore_n 1, 1) := by decide +kernel
theorem dX14_passes_88 : decode cX14_passes 88 = .ok (.aload_n 1, 1) := by decide +kernel
theorem dX14_passes_89 : decode cX14_passes 89 = .ok (.invokeinterface 70 1, 5) := by decide +kernel
theorem dX14_passes_94 : decode cX14_passes 94 = .ok (.ifCond .eq 48, 3) := by decide +kernel
theorem dX14_passes_97 : decode cX14_passes 97 = .ok (.aload_n 1, 1) := by decide +kernel
theorem dX14_passes_98 : decode cX14_passes 98 = .ok (.invokeinterface 76 1, 5) := by decide +kernel
theorem dX14_passes_103 : decode cX14_passes 103 = .ok (.checkcast 80, 3) := by decide +kernel
theorem dX14_passes_106 : decode cX14_passes 106 = .ok (.astore_n 2, 1) := by decide +kernel
theorem dX14_passes_107 : decode cX14_passes 107 = .ok (.aload_n 2, 1) := by decide +kernel
theorem dX14_passes_108 : decode cX14_passes 108 = .ok (.getfield 91, 3) := by decide +kernel
theorem dX14_passes_111 : decode cX14_passes 111 = .ok (.ifCond .eq 12, 3) := by decide +kernel
theorem dX14_passes_114 : decode cX14_passes 114 = .ok (.aload_n 0, 1) := by decide +kernel
theorem dX14_passes_115 : decode cX14_passes 115 = .ok (.aload_n 0, 1) := by decide +kernel
theorem dX14_passes_116 : decode cX14_passes 116 = .ok (.getfield 12, 3) := by decide +kernel
theorem dX14_passes_119 : decode cX14_passes 119 = .ok (.aload_n 2, 1) := by decide +kernel
theorem dX14_passes_120 : decode cX14_passes 120 = .ok (.invokevirtual 174, 3) := by decide +kernel
theorem dX14_passes_123 : decode cX14_passes 123 = .ok (.aload_n 2, 1) := by decide +kernel
theorem dX14_passes_124 : decode cX14_passes 124 = .ok (.getfield 91, 3) := by decide +kernel
theorem dX14_passes_127 : decode cX14_passes 127 = .ok (.ifCond .eq 12, 3) := by decide +kernel
theorem dX14_passes_130 : decode cX14_passes 130 = .ok (.aload_n 0, 1) := by decide +kernel
theorem dX14_passes_131 : decode cX14_passes 131 = .ok (.aload_n 0, 1) := by decide +kernel
theorem dX14_passes_132 : decode cX14_passes 132 = .ok (.getfield 18, 3) := by decide +kernel
theorem dX14_passes_135 : decode cX14_passes 135 = .ok (.aload_n 2, 1) := by decide +kernel
theorem dX14_passes_136 : decode cX14_passes 136 = .ok (.invokevirtual 174, 3) := by decide +kernel
theorem dX14_passes_139 : decode cX14_passes 139 = .ok (.goto (-51), 3) := by decide +kernel
theorem dX14_passes_142 : decode cX14_passes 142 = .ok (.aload_n 0, 1) := by decide +kernel
theorem dX14_passes_143 : decode cX14_passes 143 = .ok (.getfield 30, 3) := by decide +kernel
theorem dX14_passes_146 : decode cX14_passes 146 = .ok (.invokeinterface 66 1, 5) := by decide +kernel
theorem dX14_passes_151 : decode cX14_passes 151 = .ok (.astore_n 1, 1) := by decide +kernel
theorem dX14_passes_152 : decode cX14_passes 152 = .ok (.aload_n 1, 1) := by decide +kernel
theorem dX14_passes_153 : decode cX14_passes 153 = .ok (.invokeinterface 70 1, 5) := by decide +kernel
theorem dX14_passes_158 : decode cX14_passes 158 = .ok (.ifCond .eq 29, 3) := by decide +kernel
theorem dX14_passes_161 : decode cX14_passes 161 = .ok (.aload_n 1, 1) := by decide +kernel
theorem dX14_passes_162 : decode cX14_passes 162 = .ok (.invokeinterface 76 1, 5) := by decide +kernel
theorem dX14_passes_167 : decode cX14_passes 167 = .ok (.checkcast 113, 3) := by decide +kernel
theorem dX14_passes_170 : decode cX14_passes 170 = .ok (.astore_n 2, 1) := by decide +kernel
theorem dX14_passes_171 : decode cX14_passes 171 = .ok (.aload_n 2, 1) := by decide +kernel
theorem dX14_passes_172 : decode cX14_passes 172 = .ok (.getfield 115, 3) := by decide +kernel
theorem dX14_passes_175 : decode cX14_passes 175 = .ok (.iconst (-1), 1) := by decide +kernel
theorem dX14_passes_176 : decode cX14_passes 176 = .ok (.if_icmp .eq 8, 3) := by decide +kernel
theorem dX14_passes_179 : decode cX14_passes 179 = .ok (.aload_n 0, 1) := by decide +kernel
theorem dX14_passes_180 : decode cX14_passes 180 = .ok (.aload_n 2, 1) := by decide +kernel
theorem dX14_passes_181 : decode cX14_passes 181 = .ok (.invokevirtual 178, 3) := by decide +kernel
theorem dX14_passes_184 : decode cX14_passes 184 = .ok (.goto (-32), 3) := by decide +kernel
theorem dX14_passes_187 : decode cX14_passes 187 = .ok (.aload_n 0, 1) := by decide +kernel
theorem dX14_passes_188 : decode cX14_passes 188 = .ok (.getfield 55, 3) := by decide +kernel
theorem dX14_passes_191 : decode cX14_passes 191 = .ok (.ifCond .ne 14, 3) := by decide +kernel
theorem dX14_passes_194 : decode cX14_passes 194 = .ok (.aload_n 0, 1) := by decide +kernel
theorem dX14_passes_195 : decode cX14_passes 195 = .ok (.invokevirtual 182, 3) := by decide +kernel
theorem dX14_passes_198 : decode cX14_passes 198 = .ok (.ifCond .eq 7, 3) := by decide +kernel
theorem dX14_passes_201 : decode cX14_passes 201 = .ok (.aload_n 0, 1) := by decide +kernel
theorem dX14_passes_202 : decode cX14_passes 202 = .ok (.invokevirtual 185, 3) := by decide +kernel
theorem dX14_passes_205 : decode cX14_passes 205 = .ok (.aload_n 0, 1) := by decide +kernel
theorem dX14_passes_206 : decode cX14_passes 206 = .ok (.dup, 1) := by decide +kernel
theorem dX14_passes_207 : decode cX14_passes 207 = .ok (.getfield 52, 3) := by decide +kernel
theorem dX14_passes_210 : decode cX14_passes 210 = .ok (.iconst 1, 1) := by decide +kernel
theorem dX14_passes_211 : decode cX14_passes 211 = .ok (.iadd, 1) := by decide +kernel
theorem dX14_passes_212 : decode cX14_passes 212 = .ok (.putfield 52, 3) := by decide +kernel
theorem dX14_passes_215 : decode cX14_passes 215 = .ok (.return_, 1) := by decide +kernel
set_option maxRecDepth 20000 in
theorem ggX14_commands_Jx4a65c_size_8abf5 : GoodIn wsX14_commands wsJx4a65c_size_8abf5 := goodIn_r _ [11, 12, 137, 138, 139] (by decide +kernel) (by decide +kernel)
set_option maxRecDepth 20000 in
theorem gX14_commands_Jx4a65c_size_8abf5_f162Jx4a65c : GoodIn wsX14_commands (va_wsF RX14 162 RJx4a65c ⟨"java/util/List", "size", "()I"⟩ yJx4a65c_size_8abf5 wsJx4a65c_size_8abf5) := goodIn_app (goodIn_of _ (by decide +kernel)) ggX14_commands_Jx4a65c_size_8abf5
set_option maxRecDepth 20000 in
theorem ggX14_commands_Jx4a65c_get_915e3 : GoodIn wsX14_commands wsJx4a65c_get_915e3 := goodIn_r _ [16, 12, 17, 18, 19, 20, 21, 22, 23, 24, 25, 26, 27, 10, 28, 29, 137, 138, 139] (by decide +kernel) (by decide +kernel)
set_option maxRecDepth 20000 in
theorem gX14_commands_Jx4a65c_get_915e3_f138Jx4a65c : GoodIn wsX14_commands (va_wsF RX14 138 RJx4a65c ⟨"java/util/List", "get", "(I)Ljava/lang/Object;"⟩ yJx4a65c_get_915e3 wsJx4a65c_get_915e3) := goodIn_app (goodIn_of _ (by decide +kernel)) ggX14_commands_Jx4a65c_get_915e3
set_option maxRecDepth 20000 in
theorem ggX14_commands_Jx4a65c_remove_915e3 : GoodIn wsX14_commands wsJx4a65c_remove_915e3 := goodIn_r _ [33, 12, 29, 17, 18, 19, 20, 21, 22, 23, 24, 34, 35, 36, 10, 37, 38, 39, 40, 41, 42, 43, 137, 138, 139] (by decide +kernel) (by decide +kernel)
set_option maxRecDepth 20000 in
theorem gX14_commands_Jx4a65c_remove_915e3_f196Jx4a65c : GoodIn wsX14_commands (va_wsF RX14 196 RJx4a65c ⟨"java/util/List", "remove", "(I)Ljava/lang/Object;"⟩ yJx4a65c_remove_915e3 wsJx4a65c_remove_915e3) := goodIn_app (goodIn_of _ (by decide +kernel)) ggX14_commands_Jx4a65c_remove_915e3
set_option maxRecDepth 20000 in
theorem ggX14_commands_J11_valueOf_f0083 : GoodIn wsX14_commands wsJ11_valueOf_f0083 := goodIn_r _ [47, 48, 49, 50, 46, 51, 52, 53, 54, 55, 56, 57, 140] (by decide +kernel) (by decide +kernel)
set_option maxRecDepth 20000 in
theorem gX14_commands_J11_valueOf_f0083 : GoodIn wsX14_commands (va_wsS RX14 199 yJ11_valueOf_f0083 wsJ11_valueOf_f0083) := goodIn_app (goodIn_of _ (by decide +kernel)) ggX14_commands_J11_valueOf_f0083
set_option maxRecDepth 20000 in
theorem ggX14_commands_Jx4a65c_add_9ea2d : GoodIn wsX14_commands wsJx4a65c_add_9ea2d := goodIn_r _ [61, 38, 39, 29, 12, 62, 63, 64, 10, 65, 66, 67, 68, 69, 70, 71, 72, 73, 74, 75, 76, 77, 78, 79, 80, 81, 82, 83, 84, 85, 86, 87, 88, 89, 90, 91, 92, 93, 94, 95, 96, 97, 98, 99, 100, 101, 102, 103, 104, 105, 41, 42, 43, 137, 138, 139] (by decide +kernel) (by decide +kernel)
set_option maxRecDepth 20000 in
theorem gX14_commands_Jx4a65c_add_9ea2d_f94Jx4a65c : GoodIn wsX14_commands (va_wsF RX14 94 RJx4a65c ⟨"java/util/List", "add", "(Ljava/lang/Object;)Z"⟩ yJx4a65c_add_9ea2d wsJx4a65c_add_9ea2d) := goodIn_app (goodIn_of _ (by decide +kernel)) ggX14_commands_Jx4a65c_add_9ea2d
set_option maxRecDepth 20000 in
theorem ggX14_commands_X14_acts : GoodIn wsX14_commands wsX14_acts := goodIn_r _ [110, 111, 112, 113, 114, 115, 116, 117, 118, 13, 14, 15, 10, 16, 12, 17, 18, 19, 20, 21, 22, 23, 24, 25, 26, 27, 28, 29, 133, 134, 135, 136, 119, 120, 121, 122, 123, 124, 125, 126, 127, 128, 129, 130, 131, 132, 141, 142, 143, 144, 145, 146, 147, 137, 138, 139] (by decide +kernel) (by decide +kernel)
set_option maxRecDepth 20000 in
theorem gX14_commands_X14_acts : GoodIn wsX14_commands (wsV RX14 204 RX14 yX14_acts wsX14_acts) := goodIn_app (goodIn_of _ (by decide +kernel)) ggX14_commands_X14_acts
theorem dX14_commands_0 : decode cX14_commands 0 = .ok (.aload_n 0, 1) := by decide +kernel
theorem dX14_commands_1 : decode cX14_commands 1 = .ok (.getfield 52, 3) := by decide +kernel
theorem dX14_commands_4 : decode cX14_commands 4 = .ok (.bipush 90, 2) := by decide +kernel
theorem dX14_commands_6 : decode cX14_commands 6 = .ok (.irem, 1) := by decide +kernel
theorem dX14_commands_7 : decode cX14_commands 7 = .ok (.bipush 10, 2) := by decide +kernel
theorem dX14_commands_9 : decode cX14_commands 9 = .ok (.if_icmp .lt 19, 3) := by decide +kernel
theorem dX14_commands_12 : decode cX14_commands 12 = .ok (.aload_n 0, 1) := by decide +kernel
theorem dX14_commands_13 : decode cX14_commands 13 = .ok (.getfield 52, 3) := by decide +kernel
theorem dX14_commands_16 : decode cX14_commands 16 = .ok (.bipush 90, 2) := by decide +kernel
theorem dX14_commands_18 : decode cX14_commands 18 = .ok (.irem, 1) := by decide +kernel
theorem dX14_commands_19 : decode cX14_commands 19 = .ok (.bipush 50, 2) := by decide +kernel
theorem dX14_commands_21 : decode cX14_commands 21 = .ok (.if_icmp .ge 7, 3) := by decide +kernel
theorem dX14_commands_24 : decode cX14_commands 24 = .ok (.iconst 1, 1) := by decide +kernel
theorem dX14_commands_25 : decode cX14_commands 25 = .ok (.goto 4, 3) := by decide +kernel
theorem dX14_commands_28 : decode cX14_commands 28 = .ok (.iconst 0, 1) := by decide +kernel
theorem dX14_commands_29 : decode cX14_commands 29 = .ok (.istore_n 1, 1) := by decide +kernel
theorem dX14_commands_30 : decode cX14_commands 30 = .ok (.iconst 0, 1) := by decide +kernel
theorem dX14_commands_31 : decode cX14_commands 31 = .ok (.istore_n 2, 1) := by decide +kernel
theorem dX14_commands_32 : decode cX14_commands 32 = .ok (.iload_n 2, 1) := by decide +kernel
theorem dX14_commands_33 : decode cX14_commands 33 = .ok (.aload_n 0, 1) := by decide +kernel
theorem dX14_commands_34 : decode cX14_commands 34 = .ok (.getfield 36, 3) := by decide +kernel
theorem dX14_commands_37 : decode cX14_commands 37 = .ok (.invokeinterface 162 1, 5) := by decide +kernel
theorem dX14_commands_42 : decode cX14_commands 42 = .ok (.if_icmp .ge 118, 3) := by decide +kernel
theorem dX14_commands_45 : decode cX14_commands 45 = .ok (.aload_n 0, 1) := by decide +kernel
theorem dX14_commands_46 : decode cX14_commands 46 = .ok (.getfield 36, 3) := by decide +kernel
theorem dX14_commands_49 : decode cX14_commands 49 = .ok (.iload_n 2, 1) := by decide +kernel
theorem dX14_commands_50 : decode cX14_commands 50 = .ok (.invokeinterface 138 2, 5) := by decide +kernel
theorem dX14_commands_55 : decode cX14_commands 55 = .ok (.checkcast 188, 3) := by decide +kernel
theorem dX14_commands_58 : decode cX14_commands 58 = .ok (.astore_n 3, 1) := by decide +kernel
theorem dX14_commands_59 : decode cX14_commands 59 = .ok (.aload_n 0, 1) := by decide +kernel
theorem dX14_commands_60 : decode cX14_commands 60 = .ok (.getfield 52, 3) := by decide +kernel
theorem dX14_commands_63 : decode cX14_commands 63 = .ok (.aload_n 3, 1) := by decide +kernel
theorem dX14_commands_64 : decode cX14_commands 64 = .ok (.getfield 190, 3) := by decide +kernel
theorem dX14_commands_67 : decode cX14_commands 67 = .ok (.isub, 1) := by decide +kernel
theorem dX14_commands_68 : decode cX14_commands 68 = .ok (.aload_n 3, 1) := by decide +kernel
theorem dX14_commands_69 : decode cX14_commands 69 = .ok (.getfield 193, 3) := by decide +kernel
theorem dX14_commands_72 : decode cX14_commands 72 = .ok (.if_icmp .le 7, 3) := by decide +kernel
theorem dX14_commands_75 : decode cX14_commands 75 = .ok (.iconst 1, 1) := by decide +kernel
theorem dX14_commands_76 : decode cX14_commands 76 = .ok (.goto 4, 3) := by decide +kernel
theorem dX14_commands_79 : decode cX14_commands 79 = .ok (.iconst 0, 1) := by decide +kernel
theorem dX14_commands_80 : decode cX14_commands 80 = .ok (.istore 4, 2) := by decide +kernel
theorem dX14_commands_82 : decode cX14_commands 82 = .ok (.aload_n 0, 1) := by decide +kernel
theorem dX14_commands_83 : decode cX14_commands 83 = .ok (.getfield 52, 3) := by decide +kernel
theorem dX14_commands_86 : decode cX14_commands 86 = .ok (.aload_n 3, 1) := by decide +kernel
theorem dX14_commands_87 : decode cX14_commands 87 = .ok (.getfield 190, 3) := by decide +kernel
theorem dX14_commands_90 : decode cX14_commands 90 = .ok (.if_icmp .lt 64, 3) := by decide +kernel
theorem dX14_commands_93 : decode cX14_commands 93 = .ok (.iload 4, 2) := by decide +kernel
theorem dX14_commands_95 : decode cX14_commands 95 = .ok (.ifCond .ne 10, 3) := by decide +kernel
theorem dX14_commands_98 : decode cX14_commands 98 = .ok (.iload_n 1, 1) := by decide +kernel
theorem dX14_commands_99 : decode cX14_commands 99 = .ok (.ifCond .ne 6, 3) := by decide +kernel
theorem dX14_commands_102 : decode cX14_commands 102 = .ok (.goto 52, 3) := by decide +kernel
theorem dX14_commands_105 : decode cX14_commands 105 = .ok (.aload_n 0, 1) := by decide +kernel
theorem dX14_commands_106 : decode cX14_commands 106 = .ok (.getfield 36, 3) := by decide +kernel
theorem dX14_commands_109 : decode cX14_commands 109 = .ok (.iload_n 2, 1) := by decide +kernel
theorem dX14_commands_110 : decode cX14_commands 110 = .ok (.invokeinterface 196 2, 5) := by decide +kernel
theorem dX14_commands_115 : decode cX14_commands 115 = .ok (.pop, 1) := by decide +kernel
theorem dX14_commands_116 : decode cX14_commands 116 = .ok (.iinc 2 (-1), 3) := by decide +kernel
theorem dX14_commands_119 : decode cX14_commands 119 = .ok (.aload_n 0, 1) := by decide +kernel
theorem dX14_commands_120 : decode cX14_commands 120 = .ok (.getfield 39, 3) := by decide +kernel
theorem dX14_commands_123 : decode cX14_commands 123 = .ok (.iload 4, 2) := by decide +kernel
theorem dX14_commands_125 : decode cX14_commands 125 = .ok (.ifCond .eq 8, 3) := by decide +kernel
theorem dX14_commands_128 : decode cX14_commands 128 = .ok (.bipush 120, 2) := by decide +kernel
theorem dX14_commands_130 : decode cX14_commands 130 = .ok (.goto 5, 3) := by decide +kernel
theorem dX14_commands_133 : decode cX14_commands 133 = .ok (.bipush 99, 2) := by decide +kernel
theorem dX14_commands_135 : decode cX14_commands 135 = .ok (.invokestatic 199, 3) := by decide +kernel
theorem dX14_commands_138 : decode cX14_commands 138 = .ok (.invokeinterface 94 2, 5) := by decide +kernel
theorem dX14_commands_143 : decode cX14_commands 143 = .ok (.pop, 1) := by decide +kernel
theorem dX14_commands_144 : decode cX14_commands 144 = .ok (.iload 4, 2) := by decide +kernel
theorem dX14_commands_146 : decode cX14_commands 146 = .ok (.ifCond .ne 8, 3) := by decide +kernel
theorem dX14_commands_149 : decode cX14_commands 149 = .ok (.aload_n 0, 1) := by decide +kernel
theorem dX14_commands_150 : decode cX14_commands 150 = .ok (.aload_n 3, 1) := by decide +kernel
theorem dX14_commands_151 : decode cX14_commands 151 = .ok (.invokevirtual 204, 3) := by decide +kernel
theorem dX14_commands_154 : decode cX14_commands 154 = .ok (.iinc 2 1, 3) := by decide +kernel
theorem dX14_commands_157 : decode cX14_commands 157 = .ok (.goto (-125), 3) := by decide +kernel
theorem dX14_commands_160 : decode cX14_commands 160 = .ok (.return_, 1) := by decide +kernel
set_option maxRecDepth 20000 in
theorem ggX14_acts_Jx4a65c_get_915e3 : GoodIn wsX14_acts wsJx4a65c_get_915e3 := goodIn_r _ [13, 14, 15, 16, 17, 18, 19, 20, 21, 22, 23, 24, 25, 12, 26, 27, 53, 54, 55] (by decide +kernel) (by decide +kernel)
set_option maxRecDepth 20000 in
theorem gX14_acts_Jx4a65c_get_915e3_f138Jx4a65c : GoodIn wsX14_acts (va_wsF RX14 138 RJx4a65c ⟨"java/util/List", "get", "(I)Ljava/lang/Object;"⟩ yJx4a65c_get_915e3 wsJx4a65c_get_915e3) := goodIn_app (goodIn_of _ (by decide +kernel)) ggX14_acts_Jx4a65c_get_915e3
theorem dX14_acts_0 : decode cX14_acts 0 = .ok (.aload_n 1, 1) := by decide +kernel
theorem dX14_acts_1 : decode cX14_acts 1 = .ok (.getfield 208, 3) := by decide +kernel
theorem dX14_acts_4 : decode cX14_acts 4 = .ok (.lookupswitch 64 #[(102, 28), (110, 28)], 28) := by decide +kernel
theorem dX14_acts_32 : decode cX14_acts 32 = .ok (.aload_n 0, 1) := by decide +kernel
theorem dX14_acts_33 : decode cX14_acts 33 = .ok (.getfield 27, 3) := by decide +kernel
theorem dX14_acts_36 : decode cX14_acts 36 = .ok (.aload_n 1, 1) := by decide +kernel
theorem dX14_acts_37 : decode cX14_acts 37 = .ok (.getfield 209, 3) := by decide +kernel
theorem dX14_acts_40 : decode cX14_acts 40 = .ok (.invokeinterface 138 2, 5) := by decide +kernel
theorem dX14_acts_45 : decode cX14_acts 45 = .ok (.checkcast 98, 3) := by decide +kernel
theorem dX14_acts_48 : decode cX14_acts 48 = .ok (.aload_n 1, 1) := by decide +kernel
theorem dX14_acts_49 : decode cX14_acts 49 = .ok (.getfield 208, 3) := by decide +kernel
theorem dX14_acts_52 : decode cX14_acts 52 = .ok (.bipush 110, 2) := by decide +kernel
theorem dX14_acts_54 : decode cX14_acts 54 = .ok (.if_icmp .ne 7, 3) := by decide +kernel
theorem dX14_acts_57 : decode cX14_acts 57 = .ok (.iconst 1, 1) := by decide +kernel
theorem dX14_acts_58 : decode cX14_acts 58 = .ok (.goto 4, 3) := by decide +kernel
theorem dX14_acts_61 : decode cX14_acts 61 = .ok (.iconst 0, 1) := by decide +kernel
theorem dX14_acts_62 : decode cX14_acts 62 = .ok (.putfield 110, 3) := by decide +kernel
theorem dX14_acts_65 : decode cX14_acts 65 = .ok (.goto 36, 3) := by decide +kernel
theorem dX14_acts_68 : decode cX14_acts 68 = .ok (.aload_n 0, 1) := by decide +kernel
theorem dX14_acts_69 : decode cX14_acts 69 = .ok (.getfield 24, 3) := by decide +kernel
theorem dX14_acts_72 : decode cX14_acts 72 = .ok (.aload_n 1, 1) := by decide +kernel
theorem dX14_acts_73 : decode cX14_acts 73 = .ok (.getfield 209, 3) := by decide +kernel
theorem dX14_acts_76 : decode cX14_acts 76 = .ok (.invokeinterface 138 2, 5) := by decide +kernel
theorem dX14_acts_81 : decode cX14_acts 81 = .ok (.checkcast 80, 3) := by decide +kernel
theorem dX14_acts_84 : decode cX14_acts 84 = .ok (.aload_n 1, 1) := by decide +kernel
theorem dX14_acts_85 : decode cX14_acts 85 = .ok (.getfield 208, 3) := by decide +kernel
theorem dX14_acts_88 : decode cX14_acts 88 = .ok (.bipush 111, 2) := by decide +kernel
theorem dX14_acts_90 : decode cX14_acts 90 = .ok (.if_icmp .ne 7, 3) := by decide +kernel
theorem dX14_acts_93 : decode cX14_acts 93 = .ok (.iconst 1, 1) := by decide +kernel
theorem dX14_acts_94 : decode cX14_acts 94 = .ok (.goto 4, 3) := by decide +kernel
theorem dX14_acts_97 : decode cX14_acts 97 = .ok (.iconst 0, 1) := by decide +kernel
theorem dX14_acts_98 : decode cX14_acts 98 = .ok (.putfield 91, 3) := by decide +kernel
theorem dX14_acts_101 : decode cX14_acts 101 = .ok (.return_, 1) := by decide +kernel
set_option maxRecDepth 20000 in
theorem ggX14_ships_Jx4a65c_iterator_32c93 : GoodIn wsX14_ships wsJx4a65c_iterator_32c93 := goodIn_r _ [12, 13, 14, 15, 16, 17, 18, 19, 20, 21, 22, 23, 24, 25, 26, 125, 126, 127, 128, 129, 130, 131] (by decide +kernel) (by decide +kernel)
set_option maxRecDepth 20000 in
theorem gX14_ships_Jx4a65c_iterator_32c93_f66Jx4a65c : GoodIn wsX14_ships (va_wsF RX14 66 RJx4a65c ⟨"java/util/List", "iterator", "()Ljava/util/Iterator;"⟩ yJx4a65c_iterator_32c93 wsJx4a65c_iterator_32c93) := goodIn_app (goodIn_of _ (by decide +kernel)) ggX14_ships_Jx4a65c_iterator_32c93
set_option maxRecDepth 20000 in
theorem ggX14_ships_Jx35411_hasNext_aae02 : GoodIn wsX14_ships wsJx35411_hasNext_aae02 := goodIn_r _ [30, 31, 19, 125, 126, 127, 128, 129, 130, 131] (by decide +kernel) (by decide +kernel)
set_option maxRecDepth 20000 in
theorem gX14_ships_Jx35411_hasNext_aae02_f70Jx35411 : GoodIn wsX14_ships (va_wsF RX14 70 RJx35411 ⟨"java/util/Iterator", "hasNext", "()Z"⟩ yJx35411_hasNext_aae02 wsJx35411_hasNext_aae02) := goodIn_app (goodIn_of _ (by decide +kernel)) ggX14_ships_Jx35411_hasNext_aae02
set_option maxRecDepth 20000 in
theorem ggX14_ships_Jx35411_next_0502b : GoodIn wsX14_ships wsJx35411_next_0502b := goodIn_r _ [35, 31, 19, 36, 23, 37, 38, 39, 15, 40, 24, 25, 26, 125, 126, 127, 128, 129, 130, 131] (by decide +kernel) (by decide +kernel)
set_option maxRecDepth 20000 in
theorem gX14_ships_Jx35411_next_0502b_f76Jx35411 : GoodIn wsX14_ships (va_wsF RX14 76 RJx35411 ⟨"java/util/Iterator", "next", "()Ljava/lang/Object;"⟩ yJx35411_next_0502b wsJx35411_next_0502b) := goodIn_app (goodIn_of _ (by decide +kernel)) ggX14_ships_Jx35411_next_0502b
set_option maxRecDepth 20000 in
theorem ggX14_ships_J11_valueOf_f0083 : GoodIn wsX14_ships wsJ11_valueOf_f0083 := goodIn_r _ [44, 45, 46, 47, 43, 48, 49, 50, 51, 21, 22, 52, 132] (by decide +kernel) (by decide +kernel)
set_option maxRecDepth 20000 in
theorem gX14_ships_J11_valueOf_f0083 : GoodIn wsX14_ships (va_wsS RX14 199 yJ11_valueOf_f0083 wsJ11_valueOf_f0083) := goodIn_app (goodIn_of _ (by decide +kernel)) ggX14_ships_J11_valueOf_f0083
set_option maxRecDepth 20000 in
theorem ggX14_ships_Jx4a65c_add_9ea2d : GoodIn wsX14_ships wsJx4a65c_add_9ea2d := goodIn_r _ [56, 57, 25, 58, 59, 60, 61, 62, 11, 63, 64, 65, 66, 67, 68, 69, 70, 71, 72, 73, 74, 75, 76, 77, 78, 79, 80, 81, 82, 83, 84, 85, 86, 87, 88, 89, 90, 91, 92, 93, 94, 95, 96, 97, 98, 99, 100, 101, 102, 103, 104, 105, 106, 129, 130, 131] (by decide +kernel) (by decide +kernel)
set_option maxRecDepth 20000 in
theorem gX14_ships_Jx4a65c_add_9ea2d_f94Jx4a65c : GoodIn wsX14_ships (va_wsF RX14 94 RJx4a65c ⟨"java/util/List", "add", "(Ljava/lang/Object;)Z"⟩ yJx4a65c_add_9ea2d wsJx4a65c_add_9ea2d) := goodIn_app (goodIn_of _ (by decide +kernel)) ggX14_ships_Jx4a65c_add_9ea2d
theorem dX14_ships_0 : decode cX14_ships 0 = .ok (.aload_n 0, 1) := by decide +kernel
theorem dX14_ships_1 : decode cX14_ships 1 = .ok (.getfield 33, 3) := by decide +kernel
theorem dX14_ships_4 : decode cX14_ships 4 = .ok (.invokeinterface 66 1, 5) := by decide +kernel
theorem dX14_ships_9 : decode cX14_ships 9 = .ok (.astore_n 1, 1) := by decide +kernel
theorem dX14_ships_10 : decode cX14_ships 10 = .ok (.aload_n 1, 1) := by decide +kernel
theorem dX14_ships_11 : decode cX14_ships 11 = .ok (.invokeinterface 70 1, 5) := by decide +kernel
theorem dX14_ships_16 : decode cX14_ships 16 = .ok (.ifCond .eq 120, 3) := by decide +kernel
theorem dX14_ships_19 : decode cX14_ships 19 = .ok (.aload_n 1, 1) := by decide +kernel
theorem dX14_ships_20 : decode cX14_ships 20 = .ok (.invokeinterface 76 1, 5) := by decide +kernel
theorem dX14_ships_25 : decode cX14_ships 25 = .ok (.checkcast 125, 3) := by decide +kernel
theorem dX14_ships_28 : decode cX14_ships 28 = .ok (.astore_n 2, 1) := by decide +kernel
theorem dX14_ships_29 : decode cX14_ships 29 = .ok (.aload_n 2, 1) := by decide +kernel
theorem dX14_ships_30 : decode cX14_ships 30 = .ok (.getfield 127, 3) := by decide +kernel
theorem dX14_ships_33 : decode cX14_ships 33 = .ok (.iconst (-1), 1) := by decide +kernel
theorem dX14_ships_34 : decode cX14_ships 34 = .ok (.if_icmp .ne 6, 3) := by decide +kernel
theorem dX14_ships_37 : decode cX14_ships 37 = .ok (.goto (-27), 3) := by decide +kernel
theorem dX14_ships_40 : decode cX14_ships 40 = .ok (.aload_n 2, 1) := by decide +kernel
theorem dX14_ships_41 : decode cX14_ships 41 = .ok (.dup, 1) := by decide +kernel
theorem dX14_ships_42 : decode cX14_ships 42 = .ok (.getfield 127, 3) := by decide +kernel
theorem dX14_ships_45 : decode cX14_ships 45 = .ok (.aload_n 2, 1) := by decide +kernel
theorem dX14_ships_46 : decode cX14_ships 46 = .ok (.getfield 132, 3) := by decide +kernel
theorem dX14_ships_49 : decode cX14_ships 49 = .ok (.isub, 1) := by decide +kernel
theorem dX14_ships_50 : decode cX14_ships 50 = .ok (.putfield 127, 3) := by decide +kernel
theorem dX14_ships_53 : decode cX14_ships 53 = .ok (.aload_n 2, 1) := by decide +kernel
theorem dX14_ships_54 : decode cX14_ships 54 = .ok (.getfield 127, 3) := by decide +kernel
theorem dX14_ships_57 : decode cX14_ships 57 = .ok (.ifCond .le 6, 3) := by decide +kernel
theorem dX14_ships_60 : decode cX14_ships 60 = .ok (.goto (-50), 3) := by decide +kernel
theorem dX14_ships_63 : decode cX14_ships 63 = .ok (.aload_n 2, 1) := by decide +kernel
theorem dX14_ships_64 : decode cX14_ships 64 = .ok (.getfield 132, 3) := by decide +kernel
theorem dX14_ships_67 : decode cX14_ships 67 = .ok (.iconst 2, 1) := by decide +kernel
theorem dX14_ships_68 : decode cX14_ships 68 = .ok (.if_icmp .gt 39, 3) := by decide +kernel
theorem dX14_ships_71 : decode cX14_ships 71 = .ok (.aload_n 0, 1) := by decide +kernel
theorem dX14_ships_72 : decode cX14_ships 72 = .ok (.dup, 1) := by decide +kernel
theorem dX14_ships_73 : decode cX14_ships 73 = .ok (.getfield 49, 3) := by decide +kernel
theorem dX14_ships_76 : decode cX14_ships 76 = .ok (.aload_n 2, 1) := by decide +kernel
theorem dX14_ships_77 : decode cX14_ships 77 = .ok (.getfield 130, 3) := by decide +kernel
theorem dX14_ships_80 : decode cX14_ships 80 = .ok (.iadd, 1) := by decide +kernel
theorem dX14_ships_81 : decode cX14_ships 81 = .ok (.putfield 49, 3) := by decide +kernel
theorem dX14_ships_84 : decode cX14_ships 84 = .ok (.aload_n 2, 1) := by decide +kernel
theorem dX14_ships_85 : decode cX14_ships 85 = .ok (.iconst (-1), 1) := by decide +kernel
theorem dX14_ships_86 : decode cX14_ships 86 = .ok (.putfield 127, 3) := by decide +kernel
theorem dX14_ships_89 : decode cX14_ships 89 = .ok (.aload_n 0, 1) := by decide +kernel
theorem dX14_ships_90 : decode cX14_ships 90 = .ok (.getfield 39, 3) := by decide +kernel
theorem dX14_ships_93 : decode cX14_ships 93 = .ok (.bipush 100, 2) := by decide +kernel
theorem dX14_ships_95 : decode cX14_ships 95 = .ok (.invokestatic 199, 3) := by decide +kernel
theorem dX14_ships_98 : decode cX14_ships 98 = .ok (.invokeinterface 94 2, 5) := by decide +kernel
theorem dX14_ships_103 : decode cX14_ships 103 = .ok (.pop, 1) := by decide +kernel
theorem dX14_ships_104 : decode cX14_ships 104 = .ok (.goto 29, 3) := by decide +kernel
theorem dX14_ships_107 : decode cX14_ships 107 = .ok (.aload_n 2, 1) := by decide +kernel
theorem dX14_ships_108 : decode cX14_ships 108 = .ok (.bipush 100, 2) := by decide +kernel
theorem dX14_ships_110 : decode cX14_ships 110 = .ok (.putfield 127, 3) := by decide +kernel
theorem dX14_ships_113 : decode cX14_ships 113 = .ok (.aload_n 2, 1) := by decide +kernel
theorem dX14_ships_114 : decode cX14_ships 114 = .ok (.iconst 0, 1) := by decide +kernel
theorem dX14_ships_115 : decode cX14_ships 115 = .ok (.putfield 132, 3) := by decide +kernel
theorem dX14_ships_118 : decode cX14_ships 118 = .ok (.aload_n 0, 1) := by decide +kernel
theorem dX14_ships_119 : decode cX14_ships 119 = .ok (.getfield 39, 3) := by decide +kernel
theorem dX14_ships_122 : decode cX14_ships 122 = .ok (.bipush 116, 2) := by decide +kernel
theorem dX14_ships_124 : decode cX14_ships 124 = .ok (.invokestatic 199, 3) := by decide +kernel
theorem dX14_ships_127 : decode cX14_ships 127 = .ok (.invokeinterface 94 2, 5) := by decide +kernel
theorem dX14_ships_132 : decode cX14_ships 132 = .ok (.pop, 1) := by decide +kernel
theorem dX14_ships_133 : decode cX14_ships 133 = .ok (.goto (-123), 3) := by decide +kernel
theorem dX14_ships_136 : decode cX14_ships 136 = .ok (.return_, 1) := by decide +kernel
set_option maxRecDepth 20000 in
theorem ggX14_devices_Jx4a65c_iterator_32c93 : GoodIn wsX14_devices wsJx4a65c_iterator_32c93 := goodIn_r _ [22, 23, 24, 25, 26, 27, 28, 29, 30, 31, 32, 33, 34, 35, 36, 123, 124, 125, 126, 127, 128, 129] (by decide +kernel) (by decide +kernel)
set_option maxRecDepth 20000 in
theorem gX14_devices_Jx4a65c_iterator_32c93_f66Jx4a65c : GoodIn wsX14_devices (va_wsF RX14 66 RJx4a65c ⟨"java/util/List", "iterator", "()Ljava/util/Iterator;"⟩ yJx4a65c_iterator_32c93 wsJx4a65c_iterator_32c93) := goodIn_app (goodIn_of _ (by decide +kernel)) ggX14_devices_Jx4a65c_iterator_32c93
set_option maxRecDepth 20000 in
theorem ggX14_devices_Jx35411_hasNext_aae02 : GoodIn wsX14_devices wsJx35411_hasNext_aae02 := goodIn_r _ [40, 41, 29, 123, 124, 125, 126, 127, 128, 129] (by decide +kernel) (by decide +kernel)
set_option maxRecDepth 20000 in
theorem gX14_devices_Jx35411_hasNext_aae02_f70Jx35411 : GoodIn wsX14_devices (va_wsF RX14 70 RJx35411 ⟨"java/util/Iterator", "hasNext", "()Z"⟩ yJx35411_hasNext_aae02 wsJx35411_hasNext_aae02) := goodIn_app (goodIn_of _ (by decide +kernel)) ggX14_devices_Jx35411_hasNext_aae02
set_option maxRecDepth 20000 in
theorem ggX14_devices_Jx35411_next_0502b : GoodIn wsX14_devices wsJx35411_next_0502b := goodIn_r _ [45, 41, 29, 46, 33, 47, 48, 49, 25, 50, 34, 35, 36, 123, 124, 125, 126, 127, 128, 129] (by decide +kernel) (by decide +kernel)
set_option maxRecDepth 20000 in
theorem gX14_devices_Jx35411_next_0502b_f76Jx35411 : GoodIn wsX14_devices (va_wsF RX14 76 RJx35411 ⟨"java/util/Iterator", "next", "()Ljava/lang/Object;"⟩ yJx35411_next_0502b wsJx35411_next_0502b) := goodIn_app (goodIn_of _ (by decide +kernel)) ggX14_devices_Jx35411_next_0502b
set_option maxRecDepth 20000 in
theorem ggX14_devices_X10_power : GoodIn wsX14_devices wsX10_power := goodIn_r _ [55, 56, 119, 120, 121, 122] (by decide +kernel) (by decide +kernel)
set_option maxRecDepth 20000 in
theorem gX14_devices_X10_power : GoodIn wsX14_devices (wsV RX14 215 RX10 yX10_power wsX10_power) := goodIn_app (goodIn_of _ (by decide +kernel)) ggX14_devices_X10_power
set_option maxRecDepth 20000 in
theorem ggX14_devices_Jx4a65c_get_915e3 : GoodIn wsX14_devices wsJx4a65c_get_915e3 := goodIn_r _ [60, 61, 62, 63, 64, 65, 66, 67, 68, 69, 70, 71, 72, 21, 73, 74, 127, 128, 129] (by decide +kernel) (by decide +kernel)
set_option maxRecDepth 20000 in
theorem gX14_devices_Jx4a65c_get_915e3_f138Jx4a65c : GoodIn wsX14_devices (va_wsF RX14 138 RJx4a65c ⟨"java/util/List", "get", "(I)Ljava/lang/Object;"⟩ yJx4a65c_get_915e3 wsJx4a65c_get_915e3) := goodIn_app (goodIn_of _ (by decide +kernel)) ggX14_devices_Jx4a65c_get_915e3
set_option maxRecDepth 20000 in
theorem ggX14_devices_J6_intValue_8abf5 : GoodIn wsX14_devices wsJ6_intValue_8abf5 := goodIn_r _ [79, 80, 130] (by decide +kernel) (by decide +kernel)
set_option maxRecDepth 20000 in
theorem gX14_devices_J6_intValue_8abf5 : GoodIn wsX14_devices (wsV RX14 144 RJ6 yJ6_intValue_8abf5 wsJ6_intValue_8abf5) := goodIn_app (goodIn_of _ (by decide +kernel)) ggX14_devices_J6_intValue_8abf5
set_option maxRecDepth 20000 in
theorem ggX14_devices_X14_add : GoodIn wsX14_devices wsX14_add := goodIn_r _ [85, 11, 57, 58, 59, 21, 60, 61, 62, 63, 64, 65, 66, 67, 68, 69, 70, 71, 72, 73, 74, 75, 76, 77, 78, 79, 80, 86, 87, 88, 89, 90, 91, 92, 93, 94, 95, 96, 97, 98, 99, 100, 31, 32, 101, 102, 103, 104, 127, 128, 129, 130] (by decide +kernel) (by decide +kernel)
set_option maxRecDepth 20000 in
theorem gX14_devices_X14_add : GoodIn wsX14_devices (wsV RX14 171 RX14 yX14_add wsX14_add) := goodIn_app (goodIn_of _ (by decide +kernel)) ggX14_devices_X14_add
theorem dX14_devices_0 : decode cX14_devices 0 = .ok (.aload_n 0, 1) := by decide +kernel
theorem dX14_devices_1 : decode cX14_devices 1 = .ok (.getfield 46, 3) := by decide +kernel
theorem dX14_devices_4 : decode cX14_devices 4 = .ok (.aload_n 0, 1) := by decide +kernel
theorem dX14_devices_5 : decode cX14_devices 5 = .ok (.getfield 52, 3) := by decide +kernel
theorem dX14_devices_8 : decode cX14_devices 8 = .ok (.bipush 90, 2) := by decide +kernel
theorem dX14_devices_10 : decode cX14_devices 10 = .ok (.irem, 1) := by decide +kernel
theorem dX14_devices_11 : decode cX14_devices 11 = .ok (.bipush 60, 2) := by decide +kernel
theorem dX14_devices_13 : decode cX14_devices 13 = .ok (.if_icmp .ge 10, 3) := by decide +kernel
theorem dX14_devices_16 : decode cX14_devices 16 = .ok (.aload_n 0, 1) := by decide +kernel
theorem dX14_devices_17 : decode cX14_devices 17 = .ok (.getfield 42, 3) := by decide +kernel
theorem dX14_devices_20 : decode cX14_devices 20 = .ok (.goto 4, 3) := by decide +kernel
theorem dX14_devices_23 : decode cX14_devices 23 = .ok (.iconst 0, 1) := by decide +kernel
theorem dX14_devices_24 : decode cX14_devices 24 = .ok (.iadd, 1) := by decide +kernel
theorem dX14_devices_25 : decode cX14_devices 25 = .ok (.istore_n 1, 1) := by decide +kernel
theorem dX14_devices_26 : decode cX14_devices 26 = .ok (.aload_n 0, 1) := by decide +kernel
theorem dX14_devices_27 : decode cX14_devices 27 = .ok (.getfield 27, 3) := by decide +kernel
theorem dX14_devices_30 : decode cX14_devices 30 = .ok (.invokeinterface 66 1, 5) := by decide +kernel
theorem dX14_devices_35 : decode cX14_devices 35 = .ok (.astore_n 2, 1) := by decide +kernel
theorem dX14_devices_36 : decode cX14_devices 36 = .ok (.aload_n 2, 1) := by decide +kernel
theorem dX14_devices_37 : decode cX14_devices 37 = .ok (.invokeinterface 70 1, 5) := by decide +kernel
theorem dX14_devices_42 : decode cX14_devices 42 = .ok (.ifCond .eq 137, 3) := by decide +kernel
theorem dX14_devices_45 : decode cX14_devices 45 = .ok (.aload_n 2, 1) := by decide +kernel
theorem dX14_devices_46 : decode cX14_devices 46 = .ok (.invokeinterface 76 1, 5) := by decide +kernel
theorem dX14_devices_51 : decode cX14_devices 51 = .ok (.checkcast 98, 3) := by decide +kernel
theorem dX14_devices_54 : decode cX14_devices 54 = .ok (.astore_n 3, 1) := by decide +kernel
theorem dX14_devices_55 : decode cX14_devices 55 = .ok (.aload_n 3, 1) := by decide +kernel
theorem dX14_devices_56 : decode cX14_devices 56 = .ok (.getfield 110, 3) := by decide +kernel
theorem dX14_devices_59 : decode cX14_devices 59 = .ok (.ifCond .eq (-23), 3) := by decide +kernel
theorem dX14_devices_62 : decode cX14_devices 62 = .ok (.aload_n 3, 1) := by decide +kernel
theorem dX14_devices_63 : decode cX14_devices 63 = .ok (.getfield 212, 3) := by decide +kernel
theorem dX14_devices_66 : decode cX14_devices 66 = .ok (.ifCond .ne (-30), 3) := by decide +kernel
theorem dX14_devices_69 : decode cX14_devices 69 = .ok (.iload_n 1, 1) := by decide +kernel
theorem dX14_devices_70 : decode cX14_devices 70 = .ok (.aload_n 3, 1) := by decide +kernel
theorem dX14_devices_71 : decode cX14_devices 71 = .ok (.invokevirtual 215, 3) := by decide +kernel
theorem dX14_devices_74 : decode cX14_devices 74 = .ok (.if_icmp .ge 6, 3) := by decide +kernel
theorem dX14_devices_77 : decode cX14_devices 77 = .ok (.goto (-41), 3) := by decide +kernel
theorem dX14_devices_80 : decode cX14_devices 80 = .ok (.iload_n 1, 1) := by decide +kernel
theorem dX14_devices_81 : decode cX14_devices 81 = .ok (.aload_n 3, 1) := by decide +kernel
theorem dX14_devices_82 : decode cX14_devices 82 = .ok (.invokevirtual 215, 3) := by decide +kernel
theorem dX14_devices_85 : decode cX14_devices 85 = .ok (.isub, 1) := by decide +kernel
theorem dX14_devices_86 : decode cX14_devices 86 = .ok (.istore_n 1, 1) := by decide +kernel
theorem dX14_devices_87 : decode cX14_devices 87 = .ok (.aload_n 3, 1) := by decide +kernel
theorem dX14_devices_88 : decode cX14_devices 88 = .ok (.getfield 100, 3) := by decide +kernel
theorem dX14_devices_91 : decode cX14_devices 91 = .ok (.bipush 115, 2) := by decide +kernel
theorem dX14_devices_93 : decode cX14_devices 93 = .ok (.if_icmp .ne 39, 3) := by decide +kernel
theorem dX14_devices_96 : decode cX14_devices 96 = .ok (.aload_n 0, 1) := by decide +kernel
theorem dX14_devices_97 : decode cX14_devices 97 = .ok (.aload_n 0, 1) := by decide +kernel
theorem dX14_devices_98 : decode cX14_devices 98 = .ok (.getfield 18, 3) := by decide +kernel
theorem dX14_devices_101 : decode cX14_devices 101 = .ok (.aload_n 3, 1) := by decide +kernel
theorem dX14_devices_102 : decode cX14_devices 102 = .ok (.getfield 104, 3) := by decide +kernel
theorem dX14_devices_105 : decode cX14_devices 105 = .ok (.iconst 4, 1) := by decide +kernel
theorem dX14_devices_106 : decode cX14_devices 106 = .ok (.aload_n 0, 1) := by decide +kernel
theorem dX14_devices_107 : decode cX14_devices 107 = .ok (.getfield 18, 3) := by decide +kernel
theorem dX14_devices_110 : decode cX14_devices 110 = .ok (.aload_n 3, 1) := by decide +kernel
theorem dX14_devices_111 : decode cX14_devices 111 = .ok (.getfield 104, 3) := by decide +kernel
theorem dX14_devices_114 : decode cX14_devices 114 = .ok (.invokeinterface 138 2, 5) := by decide +kernel
theorem dX14_devices_119 : decode cX14_devices 119 = .ok (.checkcast 142, 3) := by decide +kernel
theorem dX14_devices_122 : decode cX14_devices 122 = .ok (.invokevirtual 144, 3) := by decide +kernel
theorem dX14_devices_125 : decode cX14_devices 125 = .ok (.invokestatic 165, 3) := by decide +kernel
theorem dX14_devices_128 : decode cX14_devices 128 = .ok (.ineg, 1) := by decide +kernel
theorem dX14_devices_129 : decode cX14_devices 129 = .ok (.invokevirtual 171, 3) := by decide +kernel
theorem dX14_devices_132 : decode cX14_devices 132 = .ok (.aload_n 3, 1) := by decide +kernel
theorem dX14_devices_133 : decode cX14_devices 133 = .ok (.getfield 100, 3) := by decide +kernel
theorem dX14_devices_136 : decode cX14_devices 136 = .ok (.bipush 101, 2) := by decide +kernel
theorem dX14_devices_138 : decode cX14_devices 138 = .ok (.if_icmp .ne 38, 3) := by decide +kernel
theorem dX14_devices_141 : decode cX14_devices 141 = .ok (.iconst 3, 1) := by decide +kernel
theorem dX14_devices_142 : decode cX14_devices 142 = .ok (.aload_n 0, 1) := by decide +kernel
theorem dX14_devices_143 : decode cX14_devices 143 = .ok (.getfield 49, 3) := by decide +kernel
theorem dX14_devices_146 : decode cX14_devices 146 = .ok (.invokestatic 165, 3) := by decide +kernel
theorem dX14_devices_149 : decode cX14_devices 149 = .ok (.istore 4, 2) := by decide +kernel
theorem dX14_devices_151 : decode cX14_devices 151 = .ok (.aload_n 0, 1) := by decide +kernel
theorem dX14_devices_152 : decode cX14_devices 152 = .ok (.dup, 1) := by decide +kernel
theorem dX14_devices_153 : decode cX14_devices 153 = .ok (.getfield 49, 3) := by decide +kernel
theorem dX14_devices_156 : decode cX14_devices 156 = .ok (.iload 4, 2) := by decide +kernel
theorem dX14_devices_158 : decode cX14_devices 158 = .ok (.isub, 1) := by decide +kernel
theorem dX14_devices_159 : decode cX14_devices 159 = .ok (.putfield 49, 3) := by decide +kernel
theorem dX14_devices_162 : decode cX14_devices 162 = .ok (.aload_n 0, 1) := by decide +kernel
theorem dX14_devices_163 : decode cX14_devices 163 = .ok (.aload_n 0, 1) := by decide +kernel
theorem dX14_devices_164 : decode cX14_devices 164 = .ok (.getfield 12, 3) := by decide +kernel
theorem dX14_devices_167 : decode cX14_devices 167 = .ok (.aload_n 3, 1) := by decide +kernel
theorem dX14_devices_168 : decode cX14_devices 168 = .ok (.getfield 104, 3) := by decide +kernel
theorem dX14_devices_171 : decode cX14_devices 171 = .ok (.iload 4, 2) := by decide +kernel
theorem dX14_devices_173 : decode cX14_devices 173 = .ok (.invokevirtual 171, 3) := by decide +kernel
theorem dX14_devices_176 : decode cX14_devices 176 = .ok (.goto (-140), 3) := by decide +kernel
theorem dX14_devices_179 : decode cX14_devices 179 = .ok (.aload_n 0, 1) := by decide +kernel
theorem dX14_devices_180 : decode cX14_devices 180 = .ok (.sipush 200, 3) := by decide +kernel
theorem dX14_devices_183 : decode cX14_devices 183 = .ok (.iload_n 1, 1) := by decide +kernel
theorem dX14_devices_184 : decode cX14_devices 184 = .ok (.invokestatic 165, 3) := by decide +kernel
theorem dX14_devices_187 : decode cX14_devices 187 = .ok (.putfield 46, 3) := by decide +kernel
theorem dX14_devices_190 : decode cX14_devices 190 = .ok (.return_, 1) := by decide +kernel
set_option maxRecDepth 20000 in
theorem ggX14_evens_Jx4a65c_get_915e3 : GoodIn wsX14_evens wsJx4a65c_get_915e3 := goodIn_r _ [8, 9, 10, 11, 12, 13, 14, 15, 16, 17, 18, 19, 20, 7, 21, 22, 58, 59, 60] (by decide +kernel) (by decide +kernel)
set_option maxRecDepth 20000 in
theorem gX14_evens_Jx4a65c_get_915e3_f138Jx4a65c : GoodIn wsX14_evens (va_wsF RX14 138 RJx4a65c ⟨"java/util/List", "get", "(I)Ljava/lang/Object;"⟩ yJx4a65c_get_915e3 wsJx4a65c_get_915e3) := goodIn_app (goodIn_of _ (by decide +kernel)) ggX14_evens_Jx4a65c_get_915e3
set_option maxRecDepth 20000 in
theorem ggX14_evens_J6_intValue_8abf5 : GoodIn wsX14_evens wsJ6_intValue_8abf5 := goodIn_r _ [27, 28, 61] (by decide +kernel) (by decide +kernel)
set_option maxRecDepth 20000 in
theorem gX14_evens_J6_intValue_8abf5 : GoodIn wsX14_evens (wsV RX14 144 RJ6 yJ6_intValue_8abf5 wsJ6_intValue_8abf5) := goodIn_app (goodIn_of _ (by decide +kernel)) ggX14_evens_J6_intValue_8abf5
set_option maxRecDepth 20000 in
theorem ggX14_evens_X14_add : GoodIn wsX14_evens wsX14_add := goodIn_r _ [33, 2, 4, 5, 6, 7, 8, 9, 10, 11, 12, 13, 14, 15, 16, 17, 18, 19, 20, 21, 22, 23, 24, 25, 26, 27, 28, 34, 35, 36, 37, 38, 39, 40, 41, 42, 43, 44, 45, 46, 47, 48, 49, 50, 51, 52, 53, 54, 58, 59, 60, 61] (by decide +kernel) (by decide +kernel)
set_option maxRecDepth 20000 in
theorem gX14_evens_X14_add : GoodIn wsX14_evens (wsV RX14 171 RX14 yX14_add wsX14_add) := goodIn_app (goodIn_of _ (by decide +kernel)) ggX14_evens_X14_add
theorem dX14_evens_0 : decode cX14_evens 0 = .ok (.aload_n 1, 1) := by decide +kernel
theorem dX14_evens_1 : decode cX14_evens 1 = .ok (.aload_n 2, 1) := by decide +kernel
theorem dX14_evens_2 : decode cX14_evens 2 = .ok (.getfield 82, 3) := by decide +kernel
theorem dX14_evens_5 : decode cX14_evens 5 = .ok (.invokeinterface 138 2, 5) := by decide +kernel
theorem dX14_evens_10 : decode cX14_evens 10 = .ok (.checkcast 142, 3) := by decide +kernel
theorem dX14_evens_13 : decode cX14_evens 13 = .ok (.invokevirtual 144, 3) := by decide +kernel
theorem dX14_evens_16 : decode cX14_evens 16 = .ok (.aload_n 1, 1) := by decide +kernel
theorem dX14_evens_17 : decode cX14_evens 17 = .ok (.aload_n 2, 1) := by decide +kernel
theorem dX14_evens_18 : decode cX14_evens 18 = .ok (.getfield 85, 3) := by decide +kernel
theorem dX14_evens_21 : decode cX14_evens 21 = .ok (.invokeinterface 138 2, 5) := by decide +kernel
theorem dX14_evens_26 : decode cX14_evens 26 = .ok (.checkcast 142, 3) := by decide +kernel
