theorem dX8_init_0 : decode cX8_init 0 = .ok (.aload_n 0, 1) := by decide +kernel
theorem dX8_init_1 : decode cX8_init 1 = .ok (.invokespecial 1, 3) := by decide +kernel
theorem dX8_init_4 : decode cX8_init 4 = .ok (.aload_n 0, 1) := by decide +kernel
theorem dX8_init_5 : decode cX8_init 5 = .ok (.new 7, 3) := by decide +kernel
theorem dX8_init_8 : decode cX8_init 8 = .ok (.dup, 1) := by decide +kernel
theorem dX8_init_9 : decode cX8_init 9 = .ok (.sipush 1024, 3) := by decide +kernel
theorem dX8_init_12 : decode cX8_init 12 = .ok (.invokespecial 11, 3) := by decide +kernel
theorem dX8_init_15 : decode cX8_init 15 = .ok (.putfield 14, 3) := by decide +kernel
theorem dX8_init_18 : decode cX8_init 18 = .ok (.aload_n 0, 1) := by decide +kernel
theorem dX8_init_19 : decode cX8_init 19 = .ok (.new 7, 3) := by decide +kernel
theorem dX8_init_22 : decode cX8_init 22 = .ok (.dup, 1) := by decide +kernel
theorem dX8_init_23 : decode cX8_init 23 = .ok (.iconst 0, 1) := by decide +kernel
theorem dX8_init_24 : decode cX8_init 24 = .ok (.invokespecial 11, 3) := by decide +kernel
theorem dX8_init_27 : decode cX8_init 27 = .ok (.putfield 18, 3) := by decide +kernel
theorem dX8_init_30 : decode cX8_init 30 = .ok (.return_, 1) := by decide +kernel
set_option maxRecDepth 20000 in
theorem ggX8_addRoom_X8_requireRange : GoodIn wsX8_addRoom wsX8_requireRange := goodIn_ca (goodIn_r _ [9, 10, 11] (by decide +kernel) (by decide +kernel)) (goodIn_sub (fun _ h => List.mem_cons_of_mem _ (List.mem_append_left _ (List.mem_append_right _ h))) (by decide +kernel))
set_option maxRecDepth 20000 in
theorem gX8_addRoom_X8_requireRange : GoodIn wsX8_addRoom (va_wsS RX8 21 yX8_requireRange wsX8_requireRange) := goodIn_app (goodIn_of _ (by decide +kernel)) ggX8_addRoom_X8_requireRange
set_option maxRecDepth 20000 in
theorem ggX8_addRoom_X5_isFull : GoodIn wsX8_addRoom wsX5_isFull := goodIn_r _ [16, 17, 39, 40, 41, 42, 43] (by decide +kernel) (by decide +kernel)
set_option maxRecDepth 20000 in
theorem gX8_addRoom_X5_isFull : GoodIn wsX8_addRoom (wsV RX8 29 RX5 yX5_isFull wsX5_isFull) := goodIn_app (goodIn_of _ (by decide +kernel)) ggX8_addRoom_X5_isFull
set_option maxRecDepth 20000 in
theorem ggX8_addRoom_X5_add : GoodIn wsX8_addRoom wsX5_add := goodIn_ca (goodIn_r _ [21, 22, 17, 39, 40, 41, 42, 43] (by decide +kernel) (by decide +kernel)) (goodIn_sub (fun _ h => List.mem_cons_of_mem _ (List.mem_append_right _ h)) (by decide +kernel))
set_option maxRecDepth 20000 in
theorem gX8_addRoom_X5_add : GoodIn wsX8_addRoom (wsV RX8 46 RX5 yX5_add wsX5_add) := goodIn_app (goodIn_of _ (by decide +kernel)) ggX8_addRoom_X5_add
theorem dX8_addRoom_0 : decode cX8_addRoom 0 = .ok (.iload_n 1, 1) := by decide +kernel
theorem dX8_addRoom_1 : decode cX8_addRoom 1 = .ok (.iconst 0, 1) := by decide +kernel
theorem dX8_addRoom_2 : decode cX8_addRoom 2 = .ok (.sipush 200, 3) := by decide +kernel
theorem dX8_addRoom_5 : decode cX8_addRoom 5 = .ok (.invokestatic 21, 3) := by decide +kernel
theorem dX8_addRoom_8 : decode cX8_addRoom 8 = .ok (.aload_n 0, 1) := by decide +kernel
theorem dX8_addRoom_9 : decode cX8_addRoom 9 = .ok (.getfield 14, 3) := by decide +kernel
theorem dX8_addRoom_12 : decode cX8_addRoom 12 = .ok (.getfield 25, 3) := by decide +kernel
theorem dX8_addRoom_15 : decode cX8_addRoom 15 = .ok (.invokevirtual 29, 3) := by decide +kernel
theorem dX8_addRoom_18 : decode cX8_addRoom 18 = .ok (.ifCond .eq 13, 3) := by decide +kernel
theorem dX8_addRoom_31 : decode cX8_addRoom 31 = .ok (.aload_n 0, 1) := by decide +kernel
theorem dX8_addRoom_32 : decode cX8_addRoom 32 = .ok (.getfield 14, 3) := by decide +kernel
theorem dX8_addRoom_35 : decode cX8_addRoom 35 = .ok (.dup, 1) := by decide +kernel
theorem dX8_addRoom_36 : decode cX8_addRoom 36 = .ok (.getfield 42, 3) := by decide +kernel
theorem dX8_addRoom_39 : decode cX8_addRoom 39 = .ok (.iload_n 1, 1) := by decide +kernel
theorem dX8_addRoom_40 : decode cX8_addRoom 40 = .ok (.iadd, 1) := by decide +kernel
theorem dX8_addRoom_41 : decode cX8_addRoom 41 = .ok (.putfield 42, 3) := by decide +kernel
theorem dX8_addRoom_44 : decode cX8_addRoom 44 = .ok (.aload_n 0, 1) := by decide +kernel
theorem dX8_addRoom_45 : decode cX8_addRoom 45 = .ok (.getfield 14, 3) := by decide +kernel
theorem dX8_addRoom_48 : decode cX8_addRoom 48 = .ok (.getfield 25, 3) := by decide +kernel
theorem dX8_addRoom_51 : decode cX8_addRoom 51 = .ok (.iload_n 1, 1) := by decide +kernel
theorem dX8_addRoom_52 : decode cX8_addRoom 52 = .ok (.invokevirtual 46, 3) := by decide +kernel
theorem dX8_addRoom_55 : decode cX8_addRoom 55 = .ok (.ireturn, 1) := by decide +kernel
set_option maxRecDepth 20000 in
theorem ggX8_addHatch_X8_requireRoom : GoodIn wsX8_addHatch wsX8_requireRoom := goodIn_ca (goodIn_r _ [11, 5, 12, 13, 14, 15, 10, 16, 17, 18, 32, 33, 34, 35, 36, 37, 38, 39, 40, 41, 42, 43, 44, 45, 46, 47, 48, 49, 50, 51, 52] (by decide +kernel) (by decide +kernel)) (goodIn_sub (fun _ h => List.mem_cons_of_mem _ (List.mem_append_left _ (List.mem_append_right _ h))) (by decide +kernel))
set_option maxRecDepth 20000 in
theorem gX8_addHatch_X8_requireRoom : GoodIn wsX8_addHatch (wsV RX8 50 RX8 yX8_requireRoom wsX8_requireRoom) := goodIn_app (goodIn_of _ (by decide +kernel)) ggX8_addHatch_X8_requireRoom
theorem dX8_addHatch_0 : decode cX8_addHatch 0 = .ok (.aload_n 0, 1) := by decide +kernel
theorem dX8_addHatch_1 : decode cX8_addHatch 1 = .ok (.iload_n 1, 1) := by decide +kernel
theorem dX8_addHatch_2 : decode cX8_addHatch 2 = .ok (.invokevirtual 50, 3) := by decide +kernel
set_option maxRecDepth 20000 in
theorem ggX8_setHatch_X8_requireIndex : GoodIn wsX8_setHatch wsX8_requireIndex := goodIn_ca (goodIn_r _ [8, 9, 10] (by decide +kernel) (by decide +kernel)) (goodIn_sub (fun _ h => List.mem_cons_of_mem _ (List.mem_append_right _ h)) (by decide +kernel))
set_option maxRecDepth 20000 in
theorem gX8_setHatch_X8_requireIndex : GoodIn wsX8_setHatch (va_wsS RX8 73 yX8_requireIndex wsX8_requireIndex) := goodIn_app (goodIn_of _ (by decide +kernel)) ggX8_setHatch_X8_requireIndex
theorem dX8_setHatch_0 : decode cX8_setHatch 0 = .ok (.iload_n 1, 1) := by decide +kernel
theorem dX8_setHatch_1 : decode cX8_setHatch 1 = .ok (.aload_n 0, 1) := by decide +kernel
theorem dX8_setHatch_2 : decode cX8_setHatch 2 = .ok (.getfield 14, 3) := by decide +kernel
theorem dX8_setHatch_5 : decode cX8_setHatch 5 = .ok (.getfield 58, 3) := by decide +kernel
theorem dX8_setHatch_8 : decode cX8_setHatch 8 = .ok (.getfield 70, 3) := by decide +kernel
theorem dX8_setHatch_11 : decode cX8_setHatch 11 = .ok (.invokestatic 73, 3) := by decide +kernel
set_option maxRecDepth 20000 in
theorem ggX8_setLeak_X8_requireRoom : GoodIn wsX8_setLeak wsX8_requireRoom := goodIn_ca (goodIn_r _ [8, 1, 2, 9, 10, 11, 7, 12, 13, 14, 20, 21, 22, 23, 24, 25, 26, 27, 28, 29, 30, 31, 32, 33, 34, 35, 36, 37, 38, 39, 40] (by decide +kernel) (by decide +kernel)) (goodIn_sub (fun _ h => List.mem_cons_of_mem _ (List.mem_append_left _ (List.mem_append_right _ h))) (by decide +kernel))
set_option maxRecDepth 20000 in
theorem gX8_setLeak_X8_requireRoom : GoodIn wsX8_setLeak (wsV RX8 50 RX8 yX8_requireRoom wsX8_requireRoom) := goodIn_app (goodIn_of _ (by decide +kernel)) ggX8_setLeak_X8_requireRoom
theorem dX8_setLeak_0 : decode cX8_setLeak 0 = .ok (.aload_n 0, 1) := by decide +kernel
theorem dX8_setLeak_1 : decode cX8_setLeak 1 = .ok (.iload_n 1, 1) := by decide +kernel
theorem dX8_setLeak_2 : decode cX8_setLeak 2 = .ok (.invokevirtual 50, 3) := by decide +kernel
set_option maxRecDepth 20000 in
theorem ggX8_addDevice_X8_requireRoom : GoodIn wsX8_addDevice wsX8_requireRoom := goodIn_ca (goodIn_r _ [11, 5, 12, 13, 14, 15, 10, 16, 17, 18, 31, 32, 33, 34, 35, 36, 37, 38, 39, 40, 41, 42, 43, 44, 45, 46, 47, 48, 49, 50, 51] (by decide +kernel) (by decide +kernel)) (goodIn_sub (fun _ h => List.mem_cons_of_mem _ (List.mem_append_left _ (List.mem_append_right _ h))) (by decide +kernel))
set_option maxRecDepth 20000 in
theorem gX8_addDevice_X8_requireRoom : GoodIn wsX8_addDevice (wsV RX8 50 RX8 yX8_requireRoom wsX8_requireRoom) := goodIn_app (goodIn_of _ (by decide +kernel)) ggX8_addDevice_X8_requireRoom
theorem dX8_addDevice_0 : decode cX8_addDevice 0 = .ok (.iload_n 1, 1) := by decide +kernel
theorem dX8_addDevice_1 : decode cX8_addDevice 1 = .ok (.bipush 115, 2) := by decide +kernel
theorem dX8_addDevice_3 : decode cX8_addDevice 3 = .ok (.if_icmp .eq 25, 3) := by decide +kernel
theorem dX8_addDevice_6 : decode cX8_addDevice 6 = .ok (.iload_n 1, 1) := by decide +kernel
theorem dX8_addDevice_7 : decode cX8_addDevice 7 = .ok (.bipush 101, 2) := by decide +kernel
theorem dX8_addDevice_9 : decode cX8_addDevice 9 = .ok (.if_icmp .eq 19, 3) := by decide +kernel
theorem dX8_addDevice_12 : decode cX8_addDevice 12 = .ok (.iload_n 1, 1) := by decide +kernel
theorem dX8_addDevice_13 : decode cX8_addDevice 13 = .ok (.bipush 108, 2) := by decide +kernel
theorem dX8_addDevice_15 : decode cX8_addDevice 15 = .ok (.if_icmp .eq 13, 3) := by decide +kernel
theorem dX8_addDevice_18 : decode cX8_addDevice 18 = .ok (.new 53, 3) := by decide +kernel
theorem dX8_addDevice_21 : decode cX8_addDevice 21 = .ok (.dup, 1) := by decide +kernel
theorem dX8_addDevice_22 : decode cX8_addDevice 22 = .ok (.ldc 85, 2) := by decide +kernel
theorem dX8_addDevice_24 : decode cX8_addDevice 24 = .ok (.invokespecial 57, 3) := by decide +kernel
theorem dX8_addDevice_27 : decode cX8_addDevice 27 = .ok (.athrow, 1) := by decide +kernel
theorem dX8_addDevice_28 : decode cX8_addDevice 28 = .ok (.aload_n 0, 1) := by decide +kernel
theorem dX8_addDevice_29 : decode cX8_addDevice 29 = .ok (.iload_n 2, 1) := by decide +kernel
theorem dX8_addDevice_30 : decode cX8_addDevice 30 = .ok (.invokevirtual 50, 3) := by decide +kernel
set_option maxRecDepth 20000 in
theorem ggX8_setDevice_X8_requireIndex : GoodIn wsX8_setDevice wsX8_requireIndex := goodIn_ca (goodIn_r _ [12, 13, 14] (by decide +kernel) (by decide +kernel)) (goodIn_sub (fun _ h => List.mem_cons_of_mem _ (List.mem_append_right _ h)) (by decide +kernel))
set_option maxRecDepth 20000 in
theorem gX8_setDevice_X8_requireIndex : GoodIn wsX8_setDevice (va_wsS RX8 73 yX8_requireIndex wsX8_requireIndex) := goodIn_app (goodIn_of _ (by decide +kernel)) ggX8_setDevice_X8_requireIndex
theorem dX8_setDevice_0 : decode cX8_setDevice 0 = .ok (.iload_n 1, 1) := by decide +kernel
theorem dX8_setDevice_1 : decode cX8_setDevice 1 = .ok (.aload_n 0, 1) := by decide +kernel
theorem dX8_setDevice_2 : decode cX8_setDevice 2 = .ok (.getfield 14, 3) := by decide +kernel
theorem dX8_setDevice_5 : decode cX8_setDevice 5 = .ok (.getfield 87, 3) := by decide +kernel
theorem dX8_setDevice_8 : decode cX8_setDevice 8 = .ok (.getfield 99, 3) := by decide +kernel
theorem dX8_setDevice_11 : decode cX8_setDevice 11 = .ok (.invokestatic 73, 3) := by decide +kernel
set_option maxRecDepth 20000 in
theorem ggX8_setPanels_X8_requireRange : GoodIn wsX8_setPanels wsX8_requireRange := goodIn_ca (goodIn_r _ [6, 7, 8] (by decide +kernel) (by decide +kernel)) (goodIn_sub (fun _ h => List.mem_cons_of_mem _ (List.mem_append_right _ h)) (by decide +kernel))
set_option maxRecDepth 20000 in
theorem gX8_setPanels_X8_requireRange : GoodIn wsX8_setPanels (va_wsS RX8 21 yX8_requireRange wsX8_requireRange) := goodIn_app (goodIn_of _ (by decide +kernel)) ggX8_setPanels_X8_requireRange
theorem dX8_setPanels_0 : decode cX8_setPanels 0 = .ok (.iload_n 1, 1) := by decide +kernel
theorem dX8_setPanels_1 : decode cX8_setPanels 1 = .ok (.iconst 0, 1) := by decide +kernel
theorem dX8_setPanels_2 : decode cX8_setPanels 2 = .ok (.bipush 40, 2) := by decide +kernel
theorem dX8_setPanels_4 : decode cX8_setPanels 4 = .ok (.invokestatic 21, 3) := by decide +kernel
theorem dX8_setPanels_7 : decode cX8_setPanels 7 = .ok (.aload_n 0, 1) := by decide +kernel
theorem dX8_setPanels_8 : decode cX8_setPanels 8 = .ok (.getfield 14, 3) := by decide +kernel
theorem dX8_setPanels_11 : decode cX8_setPanels 11 = .ok (.getfield 116, 3) := by decide +kernel
theorem dX8_setPanels_14 : decode cX8_setPanels 14 = .ok (.istore_n 2, 1) := by decide +kernel
theorem dX8_setPanels_15 : decode cX8_setPanels 15 = .ok (.aload_n 0, 1) := by decide +kernel
theorem dX8_setPanels_16 : decode cX8_setPanels 16 = .ok (.getfield 14, 3) := by decide +kernel
theorem dX8_setPanels_19 : decode cX8_setPanels 19 = .ok (.iload_n 1, 1) := by decide +kernel
theorem dX8_setPanels_20 : decode cX8_setPanels 20 = .ok (.putfield 116, 3) := by decide +kernel
theorem dX8_setPanels_23 : decode cX8_setPanels 23 = .ok (.iload_n 2, 1) := by decide +kernel
theorem dX8_setPanels_24 : decode cX8_setPanels 24 = .ok (.ireturn, 1) := by decide +kernel
set_option maxRecDepth 20000 in
theorem ggX8_board_X8_requireRoom : GoodIn wsX8_board wsX8_requireRoom := goodIn_ca (goodIn_r _ [9, 3, 10, 11, 12, 13, 8, 14, 15, 16, 29, 30, 31, 32, 33, 34, 35, 36, 37, 38, 39, 40, 41, 42, 43, 44, 45, 46, 47, 48, 49] (by decide +kernel) (by decide +kernel)) (goodIn_sub (fun _ h => List.mem_cons_of_mem _ (List.mem_append_left _ (List.mem_append_right _ h))) (by decide +kernel))
set_option maxRecDepth 20000 in
theorem gX8_board_X8_requireRoom : GoodIn wsX8_board (wsV RX8 50 RX8 yX8_requireRoom wsX8_requireRoom) := goodIn_app (goodIn_of _ (by decide +kernel)) ggX8_board_X8_requireRoom
theorem dX8_board_0 : decode cX8_board 0 = .ok (.aload_n 0, 1) := by decide +kernel
theorem dX8_board_1 : decode cX8_board 1 = .ok (.iload_n 1, 1) := by decide +kernel
theorem dX8_board_2 : decode cX8_board 2 = .ok (.invokevirtual 50, 3) := by decide +kernel
set_option maxRecDepth 20000 in
theorem ggX8_move_X8_requireIndex : GoodIn wsX8_move wsX8_requireIndex := goodIn_ca (goodIn_r _ [11, 12, 13] (by decide +kernel) (by decide +kernel)) (goodIn_sub (fun _ h => List.mem_cons_of_mem _ (List.mem_append_left _ (List.mem_append_right _ h))) (by decide +kernel))
set_option maxRecDepth 20000 in
theorem gX8_move_X8_requireIndex : GoodIn wsX8_move (va_wsS RX8 73 yX8_requireIndex wsX8_requireIndex) := goodIn_app (goodIn_of _ (by decide +kernel)) ggX8_move_X8_requireIndex
theorem dX8_move_0 : decode cX8_move 0 = .ok (.iload_n 1, 1) := by decide +kernel
theorem dX8_move_1 : decode cX8_move 1 = .ok (.aload_n 0, 1) := by decide +kernel
theorem dX8_move_2 : decode cX8_move 2 = .ok (.getfield 14, 3) := by decide +kernel
theorem dX8_move_5 : decode cX8_move 5 = .ok (.getfield 119, 3) := by decide +kernel
theorem dX8_move_8 : decode cX8_move 8 = .ok (.getfield 129, 3) := by decide +kernel
theorem dX8_move_11 : decode cX8_move 11 = .ok (.invokestatic 73, 3) := by decide +kernel
set_option maxRecDepth 20000 in
theorem ggX8_setTask_X8_requireIndex : GoodIn wsX8_setTask wsX8_requireIndex := goodIn_ca (goodIn_r _ [13, 14, 15] (by decide +kernel) (by decide +kernel)) (goodIn_sub (fun _ h => List.mem_cons_of_mem _ (List.mem_append_left _ (List.mem_append_right _ h))) (by decide +kernel))
set_option maxRecDepth 20000 in
theorem gX8_setTask_X8_requireIndex : GoodIn wsX8_setTask (va_wsS RX8 73 yX8_requireIndex wsX8_requireIndex) := goodIn_app (goodIn_of _ (by decide +kernel)) ggX8_setTask_X8_requireIndex
theorem dX8_setTask_0 : decode cX8_setTask 0 = .ok (.iload_n 1, 1) := by decide +kernel
theorem dX8_setTask_1 : decode cX8_setTask 1 = .ok (.aload_n 0, 1) := by decide +kernel
theorem dX8_setTask_2 : decode cX8_setTask 2 = .ok (.getfield 14, 3) := by decide +kernel
theorem dX8_setTask_5 : decode cX8_setTask 5 = .ok (.getfield 119, 3) := by decide +kernel
theorem dX8_setTask_8 : decode cX8_setTask 8 = .ok (.getfield 129, 3) := by decide +kernel
theorem dX8_setTask_11 : decode cX8_setTask 11 = .ok (.invokestatic 73, 3) := by decide +kernel
set_option maxRecDepth 20000 in
theorem ggX8_send_X8_requireRange : GoodIn wsX8_send wsX8_requireRange := goodIn_ca (goodIn_r _ [18, 1, 2] (by decide +kernel) (by decide +kernel)) (goodIn_sub (fun _ h => List.mem_cons_of_mem _ (List.mem_append_left _ (List.mem_append_left _ (List.mem_append_left _ (List.mem_append_left _ (List.mem_append_right _ h)))))) (by decide +kernel))
set_option maxRecDepth 20000 in
theorem gX8_send_X8_requireRange : GoodIn wsX8_send (va_wsS RX8 21 yX8_requireRange wsX8_requireRange) := goodIn_app (goodIn_of _ (by decide +kernel)) ggX8_send_X8_requireRange
set_option maxRecDepth 20000 in
theorem ggX8_send_X8_requireIndex : GoodIn wsX8_send wsX8_requireIndex := goodIn_ca (goodIn_r _ [21, 22, 23] (by decide +kernel) (by decide +kernel)) (goodIn_sub (fun _ h => List.mem_cons_of_mem _ (List.mem_append_left _ (List.mem_append_right _ h))) (by decide +kernel))
set_option maxRecDepth 20000 in
theorem gX8_send_X8_requireIndex : GoodIn wsX8_send (va_wsS RX8 73 yX8_requireIndex wsX8_requireIndex) := goodIn_app (goodIn_of _ (by decide +kernel)) ggX8_send_X8_requireIndex
theorem dX8_send_0 : decode cX8_send 0 = .ok (.iload_n 1, 1) := by decide +kernel
theorem dX8_send_1 : decode cX8_send 1 = .ok (.bipush 110, 2) := by decide +kernel
theorem dX8_send_3 : decode cX8_send 3 = .ok (.if_icmp .eq 9, 3) := by decide +kernel
theorem dX8_send_6 : decode cX8_send 6 = .ok (.iload_n 1, 1) := by decide +kernel
theorem dX8_send_7 : decode cX8_send 7 = .ok (.bipush 102, 2) := by decide +kernel
theorem dX8_send_9 : decode cX8_send 9 = .ok (.if_icmp .ne 7, 3) := by decide +kernel
theorem dX8_send_12 : decode cX8_send 12 = .ok (.iconst 1, 1) := by decide +kernel
theorem dX8_send_13 : decode cX8_send 13 = .ok (.goto 4, 3) := by decide +kernel
theorem dX8_send_16 : decode cX8_send 16 = .ok (.iconst 0, 1) := by decide +kernel
theorem dX8_send_17 : decode cX8_send 17 = .ok (.istore 5, 2) := by decide +kernel
theorem dX8_send_19 : decode cX8_send 19 = .ok (.iload 5, 2) := by decide +kernel
theorem dX8_send_21 : decode cX8_send 21 = .ok (.ifCond .ne 25, 3) := by decide +kernel
theorem dX8_send_24 : decode cX8_send 24 = .ok (.iload_n 1, 1) := by decide +kernel
theorem dX8_send_25 : decode cX8_send 25 = .ok (.bipush 111, 2) := by decide +kernel
theorem dX8_send_27 : decode cX8_send 27 = .ok (.if_icmp .eq 19, 3) := by decide +kernel
theorem dX8_send_30 : decode cX8_send 30 = .ok (.iload_n 1, 1) := by decide +kernel
theorem dX8_send_31 : decode cX8_send 31 = .ok (.bipush 104, 2) := by decide +kernel
theorem dX8_send_33 : decode cX8_send 33 = .ok (.if_icmp .eq 13, 3) := by decide +kernel
theorem dX8_send_36 : decode cX8_send 36 = .ok (.new 53, 3) := by decide +kernel
theorem dX8_send_39 : decode cX8_send 39 = .ok (.dup, 1) := by decide +kernel
theorem dX8_send_40 : decode cX8_send 40 = .ok (.ldc 149, 2) := by decide +kernel
theorem dX8_send_42 : decode cX8_send 42 = .ok (.invokespecial 57, 3) := by decide +kernel
theorem dX8_send_45 : decode cX8_send 45 = .ok (.athrow, 1) := by decide +kernel
theorem dX8_send_46 : decode cX8_send 46 = .ok (.iload_n 3, 1) := by decide +kernel
theorem dX8_send_47 : decode cX8_send 47 = .ok (.iconst 1, 1) := by decide +kernel
theorem dX8_send_48 : decode cX8_send 48 = .ok (.bipush 99, 2) := by decide +kernel
theorem dX8_send_50 : decode cX8_send 50 = .ok (.invokestatic 21, 3) := by decide +kernel
theorem dX8_send_53 : decode cX8_send 53 = .ok (.iload 4, 2) := by decide +kernel
theorem dX8_send_55 : decode cX8_send 55 = .ok (.iconst 0, 1) := by decide +kernel
theorem dX8_send_56 : decode cX8_send 56 = .ok (.bipush 99, 2) := by decide +kernel
theorem dX8_send_58 : decode cX8_send 58 = .ok (.invokestatic 21, 3) := by decide +kernel
theorem dX8_send_61 : decode cX8_send 61 = .ok (.iload_n 2, 1) := by decide +kernel
theorem dX8_send_62 : decode cX8_send 62 = .ok (.iload 5, 2) := by decide +kernel
theorem dX8_send_64 : decode cX8_send 64 = .ok (.ifCond .eq 16, 3) := by decide +kernel
theorem dX8_send_67 : decode cX8_send 67 = .ok (.aload_n 0, 1) := by decide +kernel
theorem dX8_send_68 : decode cX8_send 68 = .ok (.getfield 14, 3) := by decide +kernel
theorem dX8_send_71 : decode cX8_send 71 = .ok (.getfield 87, 3) := by decide +kernel
theorem dX8_send_74 : decode cX8_send 74 = .ok (.getfield 99, 3) := by decide +kernel
theorem dX8_send_77 : decode cX8_send 77 = .ok (.goto 13, 3) := by decide +kernel
theorem dX8_send_80 : decode cX8_send 80 = .ok (.aload_n 0, 1) := by decide +kernel
theorem dX8_send_81 : decode cX8_send 81 = .ok (.getfield 14, 3) := by decide +kernel
theorem dX8_send_84 : decode cX8_send 84 = .ok (.getfield 58, 3) := by decide +kernel
theorem dX8_send_87 : decode cX8_send 87 = .ok (.getfield 70, 3) := by decide +kernel
theorem dX8_send_90 : decode cX8_send 90 = .ok (.invokestatic 73, 3) := by decide +kernel
set_option maxRecDepth 20000 in
theorem ggX8_approach_X8_requireRange : GoodIn wsX8_approach wsX8_requireRange := goodIn_ca (goodIn_r _ [8, 9, 10] (by decide +kernel) (by decide +kernel)) (goodIn_sub (fun _ h => List.mem_cons_of_mem _ (List.mem_append_left _ (List.mem_append_right _ h))) (by decide +kernel))
set_option maxRecDepth 20000 in
theorem gX8_approach_X8_requireRange : GoodIn wsX8_approach (va_wsS RX8 21 yX8_requireRange wsX8_requireRange) := goodIn_app (goodIn_of _ (by decide +kernel)) ggX8_approach_X8_requireRange
set_option maxRecDepth 20000 in
theorem ggX8_approach_X6_isFull : GoodIn wsX8_approach wsX6_isFull := goodIn_r _ [15, 16, 40, 41, 42, 43, 44, 45] (by decide +kernel) (by decide +kernel)
set_option maxRecDepth 20000 in
theorem gX8_approach_X6_isFull : GoodIn wsX8_approach (wsV RX8 172 RX6 yX6_isFull wsX6_isFull) := goodIn_app (goodIn_of _ (by decide +kernel)) ggX8_approach_X6_isFull
set_option maxRecDepth 20000 in
theorem ggX8_approach_X6_add : GoodIn wsX8_approach wsX6_add := goodIn_ca (goodIn_r _ [20, 21, 16, 22, 23, 40, 41, 42, 43, 44, 45] (by decide +kernel) (by decide +kernel)) (goodIn_sub (fun _ h => List.mem_cons_of_mem _ (List.mem_append_right _ h)) (by decide +kernel))
set_option maxRecDepth 20000 in
theorem gX8_approach_X6_add : GoodIn wsX8_approach (wsV RX8 177 RX6 yX6_add wsX6_add) := goodIn_app (goodIn_of _ (by decide +kernel)) ggX8_approach_X6_add
theorem dX8_approach_0 : decode cX8_approach 0 = .ok (.iload_n 1, 1) := by decide +kernel
theorem dX8_approach_1 : decode cX8_approach 1 = .ok (.iconst 1, 1) := by decide +kernel
theorem dX8_approach_2 : decode cX8_approach 2 = .ok (.sipush 500, 3) := by decide +kernel
theorem dX8_approach_5 : decode cX8_approach 5 = .ok (.invokestatic 21, 3) := by decide +kernel
theorem dX8_approach_8 : decode cX8_approach 8 = .ok (.iload_n 2, 1) := by decide +kernel
theorem dX8_approach_9 : decode cX8_approach 9 = .ok (.iconst 0, 1) := by decide +kernel
theorem dX8_approach_10 : decode cX8_approach 10 = .ok (.bipush 99, 2) := by decide +kernel
theorem dX8_approach_12 : decode cX8_approach 12 = .ok (.invokestatic 21, 3) := by decide +kernel
theorem dX8_approach_15 : decode cX8_approach 15 = .ok (.aload_n 0, 1) := by decide +kernel
theorem dX8_approach_16 : decode cX8_approach 16 = .ok (.getfield 14, 3) := by decide +kernel
theorem dX8_approach_19 : decode cX8_approach 19 = .ok (.getfield 168, 3) := by decide +kernel
theorem dX8_approach_22 : decode cX8_approach 22 = .ok (.invokevirtual 172, 3) := by decide +kernel
theorem dX8_approach_25 : decode cX8_approach 25 = .ok (.ifCond .eq 13, 3) := by decide +kernel
theorem dX8_approach_38 : decode cX8_approach 38 = .ok (.aload_n 0, 1) := by decide +kernel
theorem dX8_approach_39 : decode cX8_approach 39 = .ok (.getfield 14, 3) := by decide +kernel
theorem dX8_approach_42 : decode cX8_approach 42 = .ok (.getfield 168, 3) := by decide +kernel
theorem dX8_approach_45 : decode cX8_approach 45 = .ok (.iload_n 1, 1) := by decide +kernel
theorem dX8_approach_46 : decode cX8_approach 46 = .ok (.iload_n 2, 1) := by decide +kernel
theorem dX8_approach_47 : decode cX8_approach 47 = .ok (.invokevirtual 177, 3) := by decide +kernel
theorem dX8_approach_50 : decode cX8_approach 50 = .ok (.ireturn, 1) := by decide +kernel
set_option maxRecDepth 20000 in
theorem ggX8_burn_X8_requireIndex : GoodIn wsX8_burn wsX8_requireIndex := goodIn_ca (goodIn_r _ [18, 19, 20] (by decide +kernel) (by decide +kernel)) (goodIn_sub (fun _ h => List.mem_cons_of_mem _ (List.mem_append_left _ (List.mem_append_right _ h))) (by decide +kernel))
set_option maxRecDepth 20000 in
theorem gX8_burn_X8_requireIndex : GoodIn wsX8_burn (va_wsS RX8 73 yX8_requireIndex wsX8_requireIndex) := goodIn_app (goodIn_of _ (by decide +kernel)) ggX8_burn_X8_requireIndex
theorem dX8_burn_0 : decode cX8_burn 0 = .ok (.iload_n 1, 1) := by decide +kernel
theorem dX8_burn_1 : decode cX8_burn 1 = .ok (.aload_n 0, 1) := by decide +kernel
theorem dX8_burn_2 : decode cX8_burn 2 = .ok (.getfield 14, 3) := by decide +kernel
theorem dX8_burn_5 : decode cX8_burn 5 = .ok (.getfield 168, 3) := by decide +kernel
theorem dX8_burn_8 : decode cX8_burn 8 = .ok (.getfield 178, 3) := by decide +kernel
theorem dX8_burn_11 : decode cX8_burn 11 = .ok (.invokestatic 73, 3) := by decide +kernel
set_option maxRecDepth 20000 in
theorem ggX8_pass_X8_requireRange : GoodIn wsX8_pass wsX8_requireRange := goodIn_ca (goodIn_r _ [8, 9, 10] (by decide +kernel) (by decide +kernel)) (goodIn_sub (fun _ h => List.mem_cons_of_mem _ (List.mem_append_left _ (List.mem_append_right _ h))) (by decide +kernel))
set_option maxRecDepth 20000 in
theorem gX8_pass_X8_requireRange : GoodIn wsX8_pass (va_wsS RX8 21 yX8_requireRange wsX8_requireRange) := goodIn_app (goodIn_of _ (by decide +kernel)) ggX8_pass_X8_requireRange
set_option maxRecDepth 20000 in
theorem ggX8_pass_X7_passMinute_k0 : GoodIn wsX8_pass [.code yX7_passMinute cX7_passMinute 1 none] := goodIn_r _ [15] (by decide +kernel) (by decide +kernel)
set_option maxRecDepth 20000 in
theorem ggX8_pass_X7_passMinute_k1 : GoodIn wsX8_pass wsX7_passMinute_r1 := goodIn_r _ [16, 17, 18, 19, 20, 21, 22, 23, 24, 14, 25, 26, 27, 28, 29, 30, 31, 32, 33, 34, 35, 36, 37, 38] (by decide +kernel) (by decide +kernel)
set_option maxRecDepth 20000 in
theorem ggX8_pass_X7_passMinute_k2 : GoodIn wsX8_pass wsX7_passMinute_r2 := goodIn_r _ [39, 40, 41, 42, 43, 44, 45, 46, 47, 48, 49, 50, 51, 52, 53, 54, 55, 56, 57, 58, 59, 60, 61, 62] (by decide +kernel) (by decide +kernel)
set_option maxRecDepth 20000 in
theorem ggX8_pass_X7_passMinute_k3 : GoodIn wsX8_pass wsX7_passMinute_r3 := goodIn_r _ [63, 64, 65, 66, 67, 68, 69, 70, 71, 72, 73, 74, 75, 76, 77, 78, 79, 80, 81, 82, 83, 84, 85, 86] (by decide +kernel) (by decide +kernel)
set_option maxRecDepth 20000 in
theorem ggX8_pass_X7_passMinute_k4 : GoodIn wsX8_pass wsX7_passMinute_r4 := goodIn_r _ [87, 88, 89, 90, 91, 92, 93, 94, 95, 96, 97, 98, 99, 100, 101, 102, 103, 104, 105, 106, 107, 108, 109, 110] (by decide +kernel) (by decide +kernel)
set_option maxRecDepth 20000 in
theorem ggX8_pass_X7_passMinute_k5 : GoodIn wsX8_pass wsX7_passMinute_r5 := goodIn_r _ [111, 112, 113, 114, 115, 116, 117, 118, 119, 120, 121, 122, 123, 124, 125, 126, 127, 128, 129, 130, 131, 132, 133, 134] (by decide +kernel) (by decide +kernel)
set_option maxRecDepth 20000 in
theorem ggX8_pass_X7_passMinute_k6 : GoodIn wsX8_pass wsX7_passMinute_r6 := goodIn_r _ [135, 136, 137, 138, 139, 140, 141, 142, 143, 144, 145, 146, 147, 148, 149, 150, 151, 152, 153, 154, 155, 156, 157, 158] (by decide +kernel) (by decide +kernel)
set_option maxRecDepth 20000 in
theorem ggX8_pass_X7_passMinute_k7 : GoodIn wsX8_pass wsX7_passMinute_r7 := goodIn_r _ [159, 160, 161, 162, 163, 164, 165, 166, 167, 168, 169, 170, 171, 172, 173, 174, 175, 176, 177, 178, 179, 180, 181, 182] (by decide +kernel) (by decide +kernel)
set_option maxRecDepth 20000 in
theorem ggX8_pass_X7_passMinute_k8 : GoodIn wsX8_pass wsX7_passMinute_r8 := goodIn_r _ [183, 184, 185, 186, 187, 188, 189, 190, 191, 192, 193, 194, 195, 196] (by decide +kernel) (by decide +kernel)
set_option maxRecDepth 20000 in
theorem ggX8_pass_X7_passMinute_k9 : GoodIn wsX8_pass wsX70 := goodIn_r _ [199, 200, 201, 202, 203, 204, 205, 206, 207, 208, 209, 210, 211, 212] (by decide +kernel) (by decide +kernel)
set_option maxRecDepth 20000 in
theorem ggX8_pass_X7_passMinute_k10 : GoodIn wsX8_pass wsX00 := goodIn_r _ [213, 214, 215, 216, 217] (by decide +kernel) (by decide +kernel)
set_option maxRecDepth 20000 in
theorem ggX8_pass_X7_passMinute_k11 : GoodIn wsX8_pass wsX30 := goodIn_r _ [218, 219] (by decide +kernel) (by decide +kernel)
set_option maxRecDepth 20000 in
theorem ggX8_pass_X7_passMinute_k12 : GoodIn wsX8_pass wsX20 := goodIn_r _ [220, 221, 222, 223, 224] (by decide +kernel) (by decide +kernel)
set_option maxRecDepth 20000 in
theorem ggX8_pass_X7_passMinute_k13 : GoodIn wsX8_pass wsX40 := goodIn_r _ [225, 226, 227, 228] (by decide +kernel) (by decide +kernel)
set_option maxRecDepth 20000 in
theorem ggX8_pass_X7_passMinute_k14 : GoodIn wsX8_pass wsX60 := goodIn_r _ [229, 230, 231, 232, 233, 234] (by decide +kernel) (by decide +kernel)
set_option maxRecDepth 20000 in
theorem ggX8_pass_X7_passMinute_k15 : GoodIn wsX8_pass wsX50 := goodIn_r _ [235, 236, 237, 238, 239] (by decide +kernel) (by decide +kernel)
set_option maxRecDepth 20000 in
theorem ggX8_pass_X7_passMinute_k16 : GoodIn wsX8_pass wsX10 := goodIn_r _ [240, 241, 242, 243, 244, 245] (by decide +kernel) (by decide +kernel)
set_option maxRecDepth 20000 in
theorem ggX8_pass_X7_passMinute : GoodIn wsX8_pass wsX7_passMinute := goodIn_ca (goodIn_cons1 ggX8_pass_X7_passMinute_k0 (goodIn_app (goodIn_app (goodIn_app (goodIn_app (goodIn_app (goodIn_app (goodIn_app (goodIn_app (goodIn_app ggX8_pass_X7_passMinute_k1 (goodIn_app ggX8_pass_X7_passMinute_k2 (goodIn_app ggX8_pass_X7_passMinute_k3 (goodIn_app ggX8_pass_X7_passMinute_k4 (goodIn_app ggX8_pass_X7_passMinute_k5 (goodIn_app ggX8_pass_X7_passMinute_k6 (goodIn_app ggX8_pass_X7_passMinute_k7 ggX8_pass_X7_passMinute_k8))))))) ggX8_pass_X7_passMinute_k9) ggX8_pass_X7_passMinute_k10) ggX8_pass_X7_passMinute_k11) ggX8_pass_X7_passMinute_k12) ggX8_pass_X7_passMinute_k13) ggX8_pass_X7_passMinute_k14) ggX8_pass_X7_passMinute_k15) ggX8_pass_X7_passMinute_k16)) (goodIn_sub (fun _ h => List.mem_cons_of_mem _ (List.mem_append_right _ h)) (by decide +kernel))
set_option maxRecDepth 20000 in
theorem gX8_pass_X7_passMinute : GoodIn wsX8_pass (wsV RX8 202 RX7 yX7_passMinute wsX7_passMinute) := goodIn_app (goodIn_of _ (by decide +kernel)) ggX8_pass_X7_passMinute
theorem dX8_pass_0 : decode cX8_pass 0 = .ok (.iload_n 1, 1) := by decide +kernel
theorem dX8_pass_1 : decode cX8_pass 1 = .ok (.iconst 1, 1) := by decide +kernel
theorem dX8_pass_2 : decode cX8_pass 2 = .ok (.bipush 90, 2) := by decide +kernel
theorem dX8_pass_4 : decode cX8_pass 4 = .ok (.invokestatic 21, 3) := by decide +kernel
theorem dX8_pass_7 : decode cX8_pass 7 = .ok (.aload_n 0, 1) := by decide +kernel
theorem dX8_pass_8 : decode cX8_pass 8 = .ok (.getfield 14, 3) := by decide +kernel
theorem dX8_pass_11 : decode cX8_pass 11 = .ok (.getfield 162, 3) := by decide +kernel
theorem dX8_pass_14 : decode cX8_pass 14 = .ok (.iload_n 1, 1) := by decide +kernel
theorem dX8_pass_15 : decode cX8_pass 15 = .ok (.iadd, 1) := by decide +kernel
theorem dX8_pass_16 : decode cX8_pass 16 = .ok (.sipush 9999, 3) := by decide +kernel
theorem dX8_pass_19 : decode cX8_pass 19 = .ok (.if_icmp .le 13, 3) := by decide +kernel
theorem dX8_pass_32 : decode cX8_pass 32 = .ok (.iconst 0, 1) := by decide +kernel
theorem dX8_pass_33 : decode cX8_pass 33 = .ok (.istore_n 2, 1) := by decide +kernel
theorem dX8_pass_34 : decode cX8_pass 34 = .ok (.iload_n 2, 1) := by decide +kernel
theorem dX8_pass_35 : decode cX8_pass 35 = .ok (.iload_n 1, 1) := by decide +kernel
theorem dX8_pass_36 : decode cX8_pass 36 = .ok (.if_icmp .ge 16, 3) := by decide +kernel
theorem dX8_pass_39 : decode cX8_pass 39 = .ok (.aload_n 0, 1) := by decide +kernel
theorem dX8_pass_40 : decode cX8_pass 40 = .ok (.getfield 14, 3) := by decide +kernel
theorem dX8_pass_43 : decode cX8_pass 43 = .ok (.invokevirtual 202, 3) := by decide +kernel
theorem dX8_pass_46 : decode cX8_pass 46 = .ok (.iinc 2 1, 3) := by decide +kernel
theorem dX8_pass_49 : decode cX8_pass 49 = .ok (.goto (-15), 3) := by decide +kernel
theorem dX8_pass_52 : decode cX8_pass 52 = .ok (.aload_n 0, 1) := by decide +kernel
theorem dX8_pass_53 : decode cX8_pass 53 = .ok (.getfield 14, 3) := by decide +kernel
theorem dX8_pass_56 : decode cX8_pass 56 = .ok (.getfield 162, 3) := by decide +kernel
theorem dX8_pass_59 : decode cX8_pass 59 = .ok (.ireturn, 1) := by decide +kernel
theorem dX8_endSafe_0 : decode cX8_endSafe 0 = .ok (.aload_n 0, 1) := by decide +kernel
theorem dX8_endSafe_1 : decode cX8_endSafe 1 = .ok (.getfield 14, 3) := by decide +kernel
theorem dX8_endSafe_4 : decode cX8_endSafe 4 = .ok (.getfield 100, 3) := by decide +kernel
theorem dX8_endSafe_7 : decode cX8_endSafe 7 = .ok (.istore_n 1, 1) := by decide +kernel
theorem dX8_endSafe_8 : decode cX8_endSafe 8 = .ok (.aload_n 0, 1) := by decide +kernel
theorem dX8_endSafe_9 : decode cX8_endSafe 9 = .ok (.getfield 14, 3) := by decide +kernel
theorem dX8_endSafe_12 : decode cX8_endSafe 12 = .ok (.iconst 0, 1) := by decide +kernel
theorem dX8_endSafe_13 : decode cX8_endSafe 13 = .ok (.putfield 100, 3) := by decide +kernel
theorem dX8_endSafe_16 : decode cX8_endSafe 16 = .ok (.iload_n 1, 1) := by decide +kernel
theorem dX8_endSafe_17 : decode cX8_endSafe 17 = .ok (.ireturn, 1) := by decide +kernel
set_option maxRecDepth 20000 in
theorem ggX8_oxygen_X8_requireRoom : GoodIn wsX8_oxygen wsX8_requireRoom := goodIn_ca (goodIn_r _ [8, 1, 2, 9, 10, 11, 7, 12, 13, 14, 15, 16, 17, 18, 19, 20, 21, 22, 23, 24, 25, 26, 27, 28, 29, 30, 31, 32, 33, 34, 35] (by decide +kernel) (by decide +kernel)) (goodIn_sub (fun _ h => List.mem_cons_of_mem _ (List.mem_append_right _ h)) (by decide +kernel))
set_option maxRecDepth 20000 in
theorem gX8_oxygen_X8_requireRoom : GoodIn wsX8_oxygen (wsV RX8 50 RX8 yX8_requireRoom wsX8_requireRoom) := goodIn_app (goodIn_of _ (by decide +kernel)) ggX8_oxygen_X8_requireRoom
theorem dX8_oxygen_0 : decode cX8_oxygen 0 = .ok (.aload_n 0, 1) := by decide +kernel
theorem dX8_oxygen_1 : decode cX8_oxygen 1 = .ok (.iload_n 1, 1) := by decide +kernel
theorem dX8_oxygen_2 : decode cX8_oxygen 2 = .ok (.invokevirtual 50, 3) := by decide +kernel
set_option maxRecDepth 20000 in
theorem ggX8_carbon_X8_requireRoom : GoodIn wsX8_carbon wsX8_requireRoom := goodIn_ca (goodIn_r _ [8, 1, 2, 9, 10, 11, 7, 12, 13, 14, 15, 16, 17, 18, 19, 20, 21, 22, 23, 24, 25, 26, 27, 28, 29, 30, 31, 32, 33, 34, 35] (by decide +kernel) (by decide +kernel)) (goodIn_sub (fun _ h => List.mem_cons_of_mem _ (List.mem_append_right _ h)) (by decide +kernel))
set_option maxRecDepth 20000 in
theorem gX8_carbon_X8_requireRoom : GoodIn wsX8_carbon (wsV RX8 50 RX8 yX8_requireRoom wsX8_requireRoom) := goodIn_app (goodIn_of _ (by decide +kernel)) ggX8_carbon_X8_requireRoom
theorem dX8_carbon_0 : decode cX8_carbon 0 = .ok (.aload_n 0, 1) := by decide +kernel
theorem dX8_carbon_1 : decode cX8_carbon 1 = .ok (.iload_n 1, 1) := by decide +kernel
theorem dX8_carbon_2 : decode cX8_carbon 2 = .ok (.invokevirtual 50, 3) := by decide +kernel
theorem dX8_water_0 : decode cX8_water 0 = .ok (.aload_n 0, 1) := by decide +kernel
theorem dX8_water_1 : decode cX8_water 1 = .ok (.getfield 14, 3) := by decide +kernel
theorem dX8_water_4 : decode cX8_water 4 = .ok (.getfield 211, 3) := by decide +kernel
theorem dX8_water_7 : decode cX8_water 7 = .ok (.ireturn, 1) := by decide +kernel
theorem dX8_battery_0 : decode cX8_battery 0 = .ok (.aload_n 0, 1) := by decide +kernel
theorem dX8_battery_1 : decode cX8_battery 1 = .ok (.getfield 14, 3) := by decide +kernel
theorem dX8_battery_4 : decode cX8_battery 4 = .ok (.getfield 214, 3) := by decide +kernel
theorem dX8_battery_7 : decode cX8_battery 7 = .ok (.ireturn, 1) := by decide +kernel
set_option maxRecDepth 20000 in
theorem ggX8_whereIs_X8_requireIndex : GoodIn wsX8_whereIs wsX8_requireIndex := goodIn_ca (goodIn_r _ [9, 10, 11] (by decide +kernel) (by decide +kernel)) (goodIn_sub (fun _ h => List.mem_cons_of_mem _ (List.mem_append_right _ h)) (by decide +kernel))
set_option maxRecDepth 20000 in
theorem gX8_whereIs_X8_requireIndex : GoodIn wsX8_whereIs (va_wsS RX8 73 yX8_requireIndex wsX8_requireIndex) := goodIn_app (goodIn_of _ (by decide +kernel)) ggX8_whereIs_X8_requireIndex
theorem dX8_whereIs_0 : decode cX8_whereIs 0 = .ok (.iload_n 1, 1) := by decide +kernel
theorem dX8_whereIs_1 : decode cX8_whereIs 1 = .ok (.aload_n 0, 1) := by decide +kernel
theorem dX8_whereIs_2 : decode cX8_whereIs 2 = .ok (.getfield 14, 3) := by decide +kernel
theorem dX8_whereIs_5 : decode cX8_whereIs 5 = .ok (.getfield 119, 3) := by decide +kernel
theorem dX8_whereIs_8 : decode cX8_whereIs 8 = .ok (.getfield 129, 3) := by decide +kernel
theorem dX8_whereIs_11 : decode cX8_whereIs 11 = .ok (.invokestatic 73, 3) := by decide +kernel
set_option maxRecDepth 20000 in
theorem ggX8_distance_X8_requireIndex : GoodIn wsX8_distance wsX8_requireIndex := goodIn_ca (goodIn_r _ [9, 10, 11] (by decide +kernel) (by decide +kernel)) (goodIn_sub (fun _ h => List.mem_cons_of_mem _ (List.mem_append_right _ h)) (by decide +kernel))
set_option maxRecDepth 20000 in
theorem gX8_distance_X8_requireIndex : GoodIn wsX8_distance (va_wsS RX8 73 yX8_requireIndex wsX8_requireIndex) := goodIn_app (goodIn_of _ (by decide +kernel)) ggX8_distance_X8_requireIndex
theorem dX8_distance_0 : decode cX8_distance 0 = .ok (.iload_n 1, 1) := by decide +kernel
theorem dX8_distance_1 : decode cX8_distance 1 = .ok (.aload_n 0, 1) := by decide +kernel
theorem dX8_distance_2 : decode cX8_distance 2 = .ok (.getfield 14, 3) := by decide +kernel
theorem dX8_distance_5 : decode cX8_distance 5 = .ok (.getfield 168, 3) := by decide +kernel
theorem dX8_distance_8 : decode cX8_distance 8 = .ok (.getfield 178, 3) := by decide +kernel
theorem dX8_distance_11 : decode cX8_distance 11 = .ok (.invokestatic 73, 3) := by decide +kernel
set_option maxRecDepth 20000 in
theorem ggX8_isOn_X8_requireIndex : GoodIn wsX8_isOn wsX8_requireIndex := goodIn_ca (goodIn_r _ [8, 9, 10] (by decide +kernel) (by decide +kernel)) (goodIn_sub (fun _ h => List.mem_cons_of_mem _ (List.mem_append_right _ h)) (by decide +kernel))
set_option maxRecDepth 20000 in
theorem gX8_isOn_X8_requireIndex : GoodIn wsX8_isOn (va_wsS RX8 73 yX8_requireIndex wsX8_requireIndex) := goodIn_app (goodIn_of _ (by decide +kernel)) ggX8_isOn_X8_requireIndex
theorem dX8_isOn_0 : decode cX8_isOn 0 = .ok (.iload_n 1, 1) := by decide +kernel
theorem dX8_isOn_1 : decode cX8_isOn 1 = .ok (.aload_n 0, 1) := by decide +kernel
theorem dX8_isOn_2 : decode cX8_isOn 2 = .ok (.getfield 14, 3) := by decide +kernel
theorem dX8_isOn_5 : decode cX8_isOn 5 = .ok (.getfield 87, 3) := by decide +kernel
theorem dX8_isOn_8 : decode cX8_isOn 8 = .ok (.getfield 99, 3) := by decide +kernel
theorem dX8_isOn_11 : decode cX8_isOn 11 = .ok (.invokestatic 73, 3) := by decide +kernel
theorem dX8_isSafe_0 : decode cX8_isSafe 0 = .ok (.aload_n 0, 1) := by decide +kernel
theorem dX8_isSafe_1 : decode cX8_isSafe 1 = .ok (.getfield 14, 3) := by decide +kernel
theorem dX8_isSafe_4 : decode cX8_isSafe 4 = .ok (.getfield 100, 3) := by decide +kernel
theorem dX8_isSafe_7 : decode cX8_isSafe 7 = .ok (.ireturn, 1) := by decide +kernel
theorem dX8_events_0 : decode cX8_events 0 = .ok (.aload_n 0, 1) := by decide +kernel
theorem dX8_events_1 : decode cX8_events 1 = .ok (.getfield 14, 3) := by decide +kernel
theorem dX8_events_4 : decode cX8_events 4 = .ok (.getfield 223, 3) := by decide +kernel
theorem dX8_events_7 : decode cX8_events 7 = .ok (.getfield 227, 3) := by decide +kernel
theorem dX8_events_10 : decode cX8_events 10 = .ok (.ireturn, 1) := by decide +kernel
set_option maxRecDepth 20000 in
theorem ggX8_eventAt_X8_requireIndex : GoodIn wsX8_eventAt wsX8_requireIndex := goodIn_ca (goodIn_r _ [8, 9, 10] (by decide +kernel) (by decide +kernel)) (goodIn_sub (fun _ h => List.mem_cons_of_mem _ (List.mem_append_right _ h)) (by decide +kernel))
set_option maxRecDepth 20000 in
theorem gX8_eventAt_X8_requireIndex : GoodIn wsX8_eventAt (va_wsS RX8 73 yX8_requireIndex wsX8_requireIndex) := goodIn_app (goodIn_of _ (by decide +kernel)) ggX8_eventAt_X8_requireIndex
theorem dX8_eventAt_0 : decode cX8_eventAt 0 = .ok (.iload_n 1, 1) := by decide +kernel
theorem dX8_eventAt_1 : decode cX8_eventAt 1 = .ok (.aload_n 0, 1) := by decide +kernel
theorem dX8_eventAt_2 : decode cX8_eventAt 2 = .ok (.getfield 14, 3) := by decide +kernel
theorem dX8_eventAt_5 : decode cX8_eventAt 5 = .ok (.getfield 223, 3) := by decide +kernel
theorem dX8_eventAt_8 : decode cX8_eventAt 8 = .ok (.getfield 227, 3) := by decide +kernel
theorem dX8_eventAt_11 : decode cX8_eventAt 11 = .ok (.invokestatic 73, 3) := by decide +kernel
set_option maxRecDepth 20000 in
theorem ggX8_timeLeft_X8_minutesToDeath_k0 : GoodIn wsX8_timeLeft [.code yX8_minutesToDeath cX8_minutesToDeath 4 (some .int)] := goodIn_r _ [5] (by decide +kernel) (by decide +kernel)
set_option maxRecDepth 20000 in
theorem ggX8_timeLeft_X8_minutesToDeath_k1 : GoodIn wsX8_timeLeft wsX8_minutesToDeath_r1 := goodIn_r _ [6, 7, 8, 9, 10, 11, 12, 13, 14, 15, 16, 17, 18, 19, 20, 21, 22, 23, 24, 25, 26, 27, 28, 29] (by decide +kernel) (by decide +kernel)
set_option maxRecDepth 20000 in
theorem ggX8_timeLeft_X8_minutesToDeath_k2 : GoodIn wsX8_timeLeft wsX8_minutesToDeath_r2 := goodIn_r _ [30, 31, 32, 33, 34, 35, 36, 37, 38, 39, 40, 41, 42, 43, 44, 45, 46, 47, 48, 49, 50, 51, 52, 53] (by decide +kernel) (by decide +kernel)
set_option maxRecDepth 20000 in
theorem ggX8_timeLeft_X8_minutesToDeath_k3 : GoodIn wsX8_timeLeft wsX8_minutesToDeath_r3 := goodIn_r _ [54, 55, 56, 57, 58, 59, 60, 61, 62, 63, 64, 65, 66, 67, 68, 69, 70, 71, 72, 73, 74, 75, 76, 77] (by decide +kernel) (by decide +kernel)
set_option maxRecDepth 20000 in
theorem ggX8_timeLeft_X8_minutesToDeath_k4 : GoodIn wsX8_timeLeft wsX8_minutesToDeath_r4 := goodIn_r _ [78, 79, 80, 81, 82, 83, 84, 85, 86, 87, 88, 89, 90, 91, 92, 93, 94, 95, 96, 97, 98, 99, 100, 101] (by decide +kernel) (by decide +kernel)
set_option maxRecDepth 20000 in
theorem ggX8_timeLeft_X8_minutesToDeath_k5 : GoodIn wsX8_timeLeft wsX8_minutesToDeath_r5 := goodIn_r _ [102, 103, 104, 105, 106, 107, 108, 109, 110, 111, 112, 113, 114, 115, 116, 117, 118, 119, 120, 121, 122, 123, 124, 125] (by decide +kernel) (by decide +kernel)
set_option maxRecDepth 20000 in
theorem ggX8_timeLeft_X8_minutesToDeath_k6 : GoodIn wsX8_timeLeft wsX8_minutesToDeath_r6 := goodIn_r _ [126, 127, 128, 129, 130, 131, 132, 133, 134, 135, 136, 137, 138, 139, 140, 141, 142, 143, 144, 145, 146, 147, 148, 149] (by decide +kernel) (by decide +kernel)
set_option maxRecDepth 20000 in
theorem ggX8_timeLeft_X8_minutesToDeath_k7 : GoodIn wsX8_timeLeft wsX8_minutesToDeath_r7 := goodIn_r _ [150, 151, 152, 153, 154, 155, 156, 157, 158, 159, 160, 161, 162, 163, 164, 165, 166, 167, 168, 169, 170, 171, 172, 173] (by decide +kernel) (by decide +kernel)
set_option maxRecDepth 20000 in
theorem ggX8_timeLeft_X8_minutesToDeath_k8 : GoodIn wsX8_timeLeft wsX8_minutesToDeath_r8 := goodIn_r _ [174, 175, 176, 177, 178, 179, 180, 181, 182, 183, 184, 185, 186, 187, 188, 189, 190, 191, 192, 193, 194, 195, 196, 197] (by decide +kernel) (by decide +kernel)
set_option maxRecDepth 20000 in
theorem ggX8_timeLeft_X8_minutesToDeath_k9 : GoodIn wsX8_timeLeft wsX8_minutesToDeath_r9 := goodIn_r _ [198, 199, 200, 201, 202, 203, 204, 205, 206, 207, 208, 209, 210, 211, 212, 213, 214, 215, 216, 217, 218, 219, 220, 221] (by decide +kernel) (by decide +kernel)
set_option maxRecDepth 20000 in
theorem ggX8_timeLeft_X8_minutesToDeath_k10 : GoodIn wsX8_timeLeft wsX8_minutesToDeath_r10 := goodIn_r _ [222, 223, 224, 225, 226, 227, 228, 229, 230, 231, 232, 233, 234, 235] (by decide +kernel) (by decide +kernel)
set_option maxRecDepth 20000 in
theorem ggX8_timeLeft_X8_minutesToDeath_k11 : GoodIn wsX8_timeLeft wsX80 := goodIn_r _ [236, 237] (by decide +kernel) (by decide +kernel)
set_option maxRecDepth 20000 in
theorem ggX8_timeLeft_X8_minutesToDeath_k12 : GoodIn wsX8_timeLeft wsX70 := goodIn_r _ [238, 239, 240, 241, 242, 243, 244, 245, 246, 247, 248, 249, 250, 251] (by decide +kernel) (by decide +kernel)
set_option maxRecDepth 20000 in
theorem ggX8_timeLeft_X8_minutesToDeath_k13 : GoodIn wsX8_timeLeft wsX20 := goodIn_r _ [252, 253, 254, 255, 256] (by decide +kernel) (by decide +kernel)
set_option maxRecDepth 20000 in
theorem ggX8_timeLeft_X8_minutesToDeath_k14 : GoodIn wsX8_timeLeft wsX10 := goodIn_r _ [257, 258, 259, 260, 261, 262] (by decide +kernel) (by decide +kernel)
set_option maxRecDepth 20000 in
theorem ggX8_timeLeft_X8_minutesToDeath_k15 : GoodIn wsX8_timeLeft wsX50 := goodIn_r _ [263, 264, 265, 266, 267] (by decide +kernel) (by decide +kernel)
set_option maxRecDepth 20000 in
theorem ggX8_timeLeft_X8_minutesToDeath_k16 : GoodIn wsX8_timeLeft wsX40 := goodIn_r _ [268, 269, 270, 271] (by decide +kernel) (by decide +kernel)
set_option maxRecDepth 20000 in
theorem ggX8_timeLeft_X8_minutesToDeath_k17 : GoodIn wsX8_timeLeft wsX00 := goodIn_r _ [272, 273, 274, 275, 276] (by decide +kernel) (by decide +kernel)
set_option maxRecDepth 20000 in
theorem ggX8_timeLeft_X8_minutesToDeath_k18 : GoodIn wsX8_timeLeft wsX60 := goodIn_r _ [277, 278, 279, 280, 281, 282] (by decide +kernel) (by decide +kernel)
set_option maxRecDepth 20000 in
theorem ggX8_timeLeft_X8_minutesToDeath_k19 : GoodIn wsX8_timeLeft wsX30 := goodIn_r _ [283, 284] (by decide +kernel) (by decide +kernel)
set_option maxRecDepth 20000 in
theorem ggX8_timeLeft_X8_minutesToDeath : GoodIn wsX8_timeLeft wsX8_minutesToDeath := goodIn_ca (goodIn_cons1 ggX8_timeLeft_X8_minutesToDeath_k0 (goodIn_app (goodIn_app (goodIn_app (goodIn_app (goodIn_app (goodIn_app (goodIn_app (goodIn_app (goodIn_app (goodIn_app ggX8_timeLeft_X8_minutesToDeath_k1 (goodIn_app ggX8_timeLeft_X8_minutesToDeath_k2 (goodIn_app ggX8_timeLeft_X8_minutesToDeath_k3 (goodIn_app ggX8_timeLeft_X8_minutesToDeath_k4 (goodIn_app ggX8_timeLeft_X8_minutesToDeath_k5 (goodIn_app ggX8_timeLeft_X8_minutesToDeath_k6 (goodIn_app ggX8_timeLeft_X8_minutesToDeath_k7 (goodIn_app ggX8_timeLeft_X8_minutesToDeath_k8 (goodIn_app ggX8_timeLeft_X8_minutesToDeath_k9 ggX8_timeLeft_X8_minutesToDeath_k10))))))))) ggX8_timeLeft_X8_minutesToDeath_k11) ggX8_timeLeft_X8_minutesToDeath_k12) ggX8_timeLeft_X8_minutesToDeath_k13) ggX8_timeLeft_X8_minutesToDeath_k14) ggX8_timeLeft_X8_minutesToDeath_k15) ggX8_timeLeft_X8_minutesToDeath_k16) ggX8_timeLeft_X8_minutesToDeath_k17) ggX8_timeLeft_X8_minutesToDeath_k18) ggX8_timeLeft_X8_minutesToDeath_k19)) (goodIn_sub (fun _ h => List.mem_cons_of_mem _ (List.mem_append_right _ h)) (by decide +kernel))
set_option maxRecDepth 20000 in
theorem gX8_timeLeft_X8_minutesToDeath : GoodIn wsX8_timeLeft (wsV RX8 233 RX8 yX8_minutesToDeath wsX8_minutesToDeath) := goodIn_app (goodIn_of _ (by decide +kernel)) ggX8_timeLeft_X8_minutesToDeath
theorem dX8_timeLeft_0 : decode cX8_timeLeft 0 = .ok (.aload_n 0, 1) := by decide +kernel
theorem dX8_timeLeft_1 : decode cX8_timeLeft 1 = .ok (.iconst (-1), 1) := by decide +kernel
theorem dX8_timeLeft_2 : decode cX8_timeLeft 2 = .ok (.sipush 300, 3) := by decide +kernel
theorem dX8_timeLeft_5 : decode cX8_timeLeft 5 = .ok (.invokevirtual 233, 3) := by decide +kernel
theorem dX8_timeLeft_8 : decode cX8_timeLeft 8 = .ok (.ireturn, 1) := by decide +kernel
set_option maxRecDepth 20000 in
theorem ggX8_worst_X8_minutesToDeath_k0 : GoodIn wsX8_worst [.code yX8_minutesToDeath cX8_minutesToDeath 4 (some .int)] := goodIn_r _ [8] (by decide +kernel) (by decide +kernel)
set_option maxRecDepth 20000 in
theorem ggX8_worst_X8_minutesToDeath_k1 : GoodIn wsX8_worst wsX8_minutesToDeath_r1 := goodIn_r _ [1, 9, 10, 2, 11, 12, 13, 14, 15, 16, 17, 18, 19, 20, 21, 22, 23, 24, 25, 26, 27, 28, 29, 30] (by decide +kernel) (by decide +kernel)
set_option maxRecDepth 20000 in
theorem ggX8_worst_X8_minutesToDeath_k2 : GoodIn wsX8_worst wsX8_minutesToDeath_r2 := goodIn_r _ [31, 32, 33, 34, 35, 36, 37, 38, 39, 40, 41, 42, 43, 44, 45, 46, 47, 48, 49, 50, 51, 52, 53, 54] (by decide +kernel) (by decide +kernel)
set_option maxRecDepth 20000 in
theorem ggX8_worst_X8_minutesToDeath_k3 : GoodIn wsX8_worst wsX8_minutesToDeath_r3 := goodIn_r _ [55, 56, 57, 58, 59, 60, 61, 62, 63, 64, 65, 66, 67, 68, 69, 70, 71, 72, 73, 74, 75, 76, 77, 78] (by decide +kernel) (by decide +kernel)
set_option maxRecDepth 20000 in
theorem ggX8_worst_X8_minutesToDeath_k4 : GoodIn wsX8_worst wsX8_minutesToDeath_r4 := goodIn_r _ [79, 80, 81, 82, 83, 84, 85, 86, 87, 88, 89, 90, 91, 92, 93, 94, 95, 96, 97, 98, 99, 100, 101, 102] (by decide +kernel) (by decide +kernel)
set_option maxRecDepth 20000 in
theorem ggX8_worst_X8_minutesToDeath_k5 : GoodIn wsX8_worst wsX8_minutesToDeath_r5 := goodIn_r _ [103, 104, 105, 106, 107, 108, 109, 110, 111, 112, 113, 114, 115, 116, 117, 118, 119, 120, 121, 122, 123, 124, 125, 126] (by decide +kernel) (by decide +kernel)
set_option maxRecDepth 20000 in
theorem ggX8_worst_X8_minutesToDeath_k6 : GoodIn wsX8_worst wsX8_minutesToDeath_r6 := goodIn_r _ [127, 128, 129, 130, 131, 132, 133, 134, 135, 136, 137, 138, 139, 140, 141, 142, 143, 144, 145, 146, 147, 148, 149, 150] (by decide +kernel) (by decide +kernel)
set_option maxRecDepth 20000 in
theorem ggX8_worst_X8_minutesToDeath_k7 : GoodIn wsX8_worst wsX8_minutesToDeath_r7 := goodIn_r _ [151, 152, 153, 154, 155, 156, 157, 158, 159, 160, 161, 162, 163, 164, 165, 166, 167, 168, 169, 170, 171, 172, 173, 174] (by decide +kernel) (by decide +kernel)
set_option maxRecDepth 20000 in
theorem ggX8_worst_X8_minutesToDeath_k8 : GoodIn wsX8_worst wsX8_minutesToDeath_r8 := goodIn_r _ [175, 176, 177, 178, 179, 180, 181, 182, 183, 184, 185, 186, 187, 188, 189, 190, 191, 192, 193, 194, 195, 196, 197, 198] (by decide +kernel) (by decide +kernel)
set_option maxRecDepth 20000 in
theorem ggX8_worst_X8_minutesToDeath_k9 : GoodIn wsX8_worst wsX8_minutesToDeath_r9 := goodIn_r _ [199, 200, 201, 202, 203, 204, 205, 206, 207, 208, 209, 210, 211, 212, 213, 214, 215, 216, 217, 218, 219, 220, 221, 222] (by decide +kernel) (by decide +kernel)
set_option maxRecDepth 20000 in
theorem ggX8_worst_X8_minutesToDeath_k10 : GoodIn wsX8_worst wsX8_minutesToDeath_r10 := goodIn_r _ [223, 224, 225, 226, 227, 228, 229, 230, 231, 232, 233, 234, 235, 236] (by decide +kernel) (by decide +kernel)
set_option maxRecDepth 20000 in
theorem ggX8_worst_X8_minutesToDeath_k11 : GoodIn wsX8_worst wsX80 := goodIn_r _ [237, 238] (by decide +kernel) (by decide +kernel)
set_option maxRecDepth 20000 in
theorem ggX8_worst_X8_minutesToDeath_k12 : GoodIn wsX8_worst wsX70 := goodIn_r _ [239, 240, 241, 242, 243, 244, 245, 246, 247, 248, 249, 250, 251, 252] (by decide +kernel) (by decide +kernel)
set_option maxRecDepth 20000 in
theorem ggX8_worst_X8_minutesToDeath_k13 : GoodIn wsX8_worst wsX20 := goodIn_r _ [253, 254, 255, 256, 257] (by decide +kernel) (by decide +kernel)
set_option maxRecDepth 20000 in
theorem ggX8_worst_X8_minutesToDeath_k14 : GoodIn wsX8_worst wsX10 := goodIn_r _ [258, 259, 260, 261, 262, 263] (by decide +kernel) (by decide +kernel)
set_option maxRecDepth 20000 in
theorem ggX8_worst_X8_minutesToDeath_k15 : GoodIn wsX8_worst wsX50 := goodIn_r _ [264, 265, 266, 267, 268] (by decide +kernel) (by decide +kernel)
set_option maxRecDepth 20000 in
theorem ggX8_worst_X8_minutesToDeath_k16 : GoodIn wsX8_worst wsX40 := goodIn_r _ [269, 270, 271, 272] (by decide +kernel) (by decide +kernel)
set_option maxRecDepth 20000 in
theorem ggX8_worst_X8_minutesToDeath_k17 : GoodIn wsX8_worst wsX00 := goodIn_r _ [273, 274, 275, 276, 277] (by decide +kernel) (by decide +kernel)
set_option maxRecDepth 20000 in
theorem ggX8_worst_X8_minutesToDeath_k18 : GoodIn wsX8_worst wsX60 := goodIn_r _ [278, 279, 280, 281, 282, 283] (by decide +kernel) (by decide +kernel)
set_option maxRecDepth 20000 in
theorem ggX8_worst_X8_minutesToDeath_k19 : GoodIn wsX8_worst wsX30 := goodIn_r _ [284, 285] (by decide +kernel) (by decide +kernel)
set_option maxRecDepth 20000 in
theorem ggX8_worst_X8_minutesToDeath : GoodIn wsX8_worst wsX8_minutesToDeath := goodIn_ca (goodIn_cons1 ggX8_worst_X8_minutesToDeath_k0 (goodIn_app (goodIn_app (goodIn_app (goodIn_app (goodIn_app (goodIn_app (goodIn_app (goodIn_app (goodIn_app (goodIn_app ggX8_worst_X8_minutesToDeath_k1 (goodIn_app ggX8_worst_X8_minutesToDeath_k2 (goodIn_app ggX8_worst_X8_minutesToDeath_k3 (goodIn_app ggX8_worst_X8_minutesToDeath_k4 (goodIn_app ggX8_worst_X8_minutesToDeath_k5 (goodIn_app ggX8_worst_X8_minutesToDeath_k6 (goodIn_app ggX8_worst_X8_minutesToDeath_k7 (goodIn_app ggX8_worst_X8_minutesToDeath_k8 (goodIn_app ggX8_worst_X8_minutesToDeath_k9 ggX8_worst_X8_minutesToDeath_k10))))))))) ggX8_worst_X8_minutesToDeath_k11) ggX8_worst_X8_minutesToDeath_k12) ggX8_worst_X8_minutesToDeath_k13) ggX8_worst_X8_minutesToDeath_k14) ggX8_worst_X8_minutesToDeath_k15) ggX8_worst_X8_minutesToDeath_k16) ggX8_worst_X8_minutesToDeath_k17) ggX8_worst_X8_minutesToDeath_k18) ggX8_worst_X8_minutesToDeath_k19)) (goodIn_sub (fun _ h => List.mem_cons_of_mem _ (List.mem_append_right _ h)) (by decide +kernel))
set_option maxRecDepth 20000 in
theorem gX8_worst_X8_minutesToDeath : GoodIn wsX8_worst (wsV RX8 233 RX8 yX8_minutesToDeath wsX8_minutesToDeath) := goodIn_app (goodIn_of _ (by decide +kernel)) ggX8_worst_X8_minutesToDeath
theorem dX8_worst_0 : decode cX8_worst 0 = .ok (.aload_n 0, 1) := by decide +kernel
theorem dX8_worst_1 : decode cX8_worst 1 = .ok (.iconst (-1), 1) := by decide +kernel
theorem dX8_worst_2 : decode cX8_worst 2 = .ok (.sipush 300, 3) := by decide +kernel
theorem dX8_worst_5 : decode cX8_worst 5 = .ok (.invokevirtual 233, 3) := by decide +kernel
theorem dX8_worst_8 : decode cX8_worst 8 = .ok (.istore_n 1, 1) := by decide +kernel
theorem dX8_worst_9 : decode cX8_worst 9 = .ok (.iconst 0, 1) := by decide +kernel
theorem dX8_worst_10 : decode cX8_worst 10 = .ok (.istore_n 2, 1) := by decide +kernel
theorem dX8_worst_11 : decode cX8_worst 11 = .ok (.iload_n 2, 1) := by decide +kernel
theorem dX8_worst_12 : decode cX8_worst 12 = .ok (.aload_n 0, 1) := by decide +kernel
theorem dX8_worst_13 : decode cX8_worst 13 = .ok (.getfield 14, 3) := by decide +kernel
theorem dX8_worst_16 : decode cX8_worst 16 = .ok (.getfield 87, 3) := by decide +kernel
theorem dX8_worst_19 : decode cX8_worst 19 = .ok (.getfield 99, 3) := by decide +kernel
theorem dX8_worst_22 : decode cX8_worst 22 = .ok (.if_icmp .ge 16, 3) := by decide +kernel
theorem dX8_worst_38 : decode cX8_worst 38 = .ok (.iload_n 1, 1) := by decide +kernel
theorem dX8_worst_39 : decode cX8_worst 39 = .ok (.ireturn, 1) := by decide +kernel
theorem dX8_checksum_0 : decode cX8_checksum 0 = .ok (.lconst 0, 1) := by decide +kernel
theorem dX8_checksum_1 : decode cX8_checksum 1 = .ok (.lstore_n 1, 1) := by decide +kernel
theorem dX8_checksum_2 : decode cX8_checksum 2 = .ok (.iconst 0, 1) := by decide +kernel
theorem dX8_checksum_3 : decode cX8_checksum 3 = .ok (.istore_n 3, 1) := by decide +kernel
theorem dX8_checksum_4 : decode cX8_checksum 4 = .ok (.iload_n 3, 1) := by decide +kernel
theorem dX8_checksum_5 : decode cX8_checksum 5 = .ok (.aload_n 0, 1) := by decide +kernel
theorem dX8_checksum_6 : decode cX8_checksum 6 = .ok (.getfield 14, 3) := by decide +kernel
theorem dX8_checksum_9 : decode cX8_checksum 9 = .ok (.getfield 25, 3) := by decide +kernel
theorem dX8_checksum_12 : decode cX8_checksum 12 = .ok (.getfield 236, 3) := by decide +kernel
theorem dX8_checksum_15 : decode cX8_checksum 15 = .ok (.if_icmp .ge 47, 3) := by decide +kernel
theorem dX8_checksum_62 : decode cX8_checksum 62 = .ok (.lload_n 1, 1) := by decide +kernel
theorem dX8_checksum_63 : decode cX8_checksum 63 = .ok (.lreturn, 1) := by decide +kernel
theorem dX8_aliveShare_0 : decode cX8_aliveShare 0 = .ok (.aload_n 0, 1) := by decide +kernel
theorem dX8_aliveShare_1 : decode cX8_aliveShare 1 = .ok (.getfield 14, 3) := by decide +kernel
theorem dX8_aliveShare_4 : decode cX8_aliveShare 4 = .ok (.getfield 119, 3) := by decide +kernel
theorem dX8_aliveShare_7 : decode cX8_aliveShare 7 = .ok (.getfield 129, 3) := by decide +kernel
theorem dX8_aliveShare_10 : decode cX8_aliveShare 10 = .ok (.istore_n 1, 1) := by decide +kernel
theorem dX8_aliveShare_11 : decode cX8_aliveShare 11 = .ok (.iload_n 1, 1) := by decide +kernel
theorem dX8_aliveShare_12 : decode cX8_aliveShare 12 = .ok (.ifCond .ne 13, 3) := by decide +kernel
theorem dX8_aliveShare_15 : decode cX8_aliveShare 15 = .ok (.new 197, 3) := by decide +kernel
theorem dX8_aliveShare_18 : decode cX8_aliveShare 18 = .ok (.dup, 1) := by decide +kernel
theorem dX8_aliveShare_19 : decode cX8_aliveShare 19 = .ok (.ldc 241, 2) := by decide +kernel
theorem dX8_aliveShare_21 : decode cX8_aliveShare 21 = .ok (.invokespecial 201, 3) := by decide +kernel
theorem dX8_aliveShare_24 : decode cX8_aliveShare 24 = .ok (.athrow, 1) := by decide +kernel
theorem dX8_meanOxygen_0 : decode cX8_meanOxygen 0 = .ok (.aload_n 0, 1) := by decide +kernel
theorem dX8_meanOxygen_1 : decode cX8_meanOxygen 1 = .ok (.getfield 14, 3) := by decide +kernel
theorem dX8_meanOxygen_4 : decode cX8_meanOxygen 4 = .ok (.getfield 25, 3) := by decide +kernel
theorem dX8_meanOxygen_7 : decode cX8_meanOxygen 7 = .ok (.getfield 236, 3) := by decide +kernel
theorem dX8_meanOxygen_10 : decode cX8_meanOxygen 10 = .ok (.istore_n 1, 1) := by decide +kernel
theorem dX8_meanOxygen_11 : decode cX8_meanOxygen 11 = .ok (.iload_n 1, 1) := by decide +kernel
theorem dX8_meanOxygen_12 : decode cX8_meanOxygen 12 = .ok (.ifCond .ne 13, 3) := by decide +kernel
theorem dX8_meanOxygen_15 : decode cX8_meanOxygen 15 = .ok (.new 197, 3) := by decide +kernel
theorem dX8_meanOxygen_18 : decode cX8_meanOxygen 18 = .ok (.dup, 1) := by decide +kernel
theorem dX8_meanOxygen_19 : decode cX8_meanOxygen 19 = .ok (.ldc 247, 2) := by decide +kernel
theorem dX8_meanOxygen_21 : decode cX8_meanOxygen 21 = .ok (.invokespecial 201, 3) := by decide +kernel
theorem dX8_meanOxygen_24 : decode cX8_meanOxygen 24 = .ok (.athrow, 1) := by decide +kernel
set_option maxRecDepth 20000 in
theorem ggX8_isSound_X7_keepsMass : GoodIn wsX8_isSound wsX7_keepsMass := goodIn_ca (goodIn_r _ [9, 10, 11, 12, 13, 14, 15, 16, 17, 18, 19, 20, 21, 22, 23, 24, 25, 26, 267, 268, 269, 270, 271, 272, 273, 274, 275, 276, 277, 278, 279, 280, 281, 282, 283, 284, 285] (by decide +kernel) (by decide +kernel)) (goodIn_sub (fun _ h => List.mem_cons_of_mem _ (List.mem_append_right _ h)) (by decide +kernel))
set_option maxRecDepth 20000 in
theorem gX8_isSound_X7_keepsMass : GoodIn wsX8_isSound (wsV RX8 252 RX7 yX7_keepsMass wsX7_keepsMass) := goodIn_app (goodIn_of _ (by decide +kernel)) ggX8_isSound_X7_keepsMass
set_option maxRecDepth 20000 in
theorem ggX8_isSound_X0_hasOverdue : GoodIn wsX8_isSound wsX0_hasOverdue := goodIn_ca (goodIn_r _ [31, 32, 33, 34, 286, 287, 288, 289, 290] (by decide +kernel) (by decide +kernel)) (goodIn_sub (fun _ h => List.mem_cons_of_mem _ (List.mem_append_right _ h)) (by decide +kernel))
set_option maxRecDepth 20000 in
theorem gX8_isSound_X0_hasOverdue : GoodIn wsX8_isSound (wsV RX8 255 RX0 yX0_hasOverdue wsX0_hasOverdue) := goodIn_app (goodIn_of _ (by decide +kernel)) ggX8_isSound_X0_hasOverdue
set_option maxRecDepth 20000 in
theorem ggX8_isSound_X8_worst_k0 : GoodIn wsX8_isSound [.code yX8_worst cX8_worst 3 (some .int)] := goodIn_r _ [39] (by decide +kernel) (by decide +kernel)
set_option maxRecDepth 20000 in
theorem ggX8_isSound_X8_worst_k1 : GoodIn wsX8_isSound wsX8_worst_r1 := goodIn_r _ [1, 40, 41, 42, 43, 44, 38, 45, 46, 47, 48, 49, 50, 51, 52, 53, 54, 55, 56, 57, 58, 59, 8, 60] (by decide +kernel) (by decide +kernel)
set_option maxRecDepth 20000 in
theorem ggX8_isSound_X8_worst_k2 : GoodIn wsX8_isSound wsX8_worst_r2 := goodIn_r _ [11, 61, 62, 63, 64, 65, 66, 67, 68, 69, 13, 14, 10, 70, 71, 72, 18, 73, 20, 21, 26, 74, 75, 76] (by decide +kernel) (by decide +kernel)
set_option maxRecDepth 20000 in
theorem ggX8_isSound_X8_worst_k3 : GoodIn wsX8_isSound wsX8_worst_r3 := goodIn_r _ [77, 78, 79, 80, 81, 82, 83, 84, 85, 86, 87, 88, 89, 90, 91, 92, 93, 94, 95, 96, 97, 98, 99, 100] (by decide +kernel) (by decide +kernel)
set_option maxRecDepth 20000 in
theorem ggX8_isSound_X8_worst_k4 : GoodIn wsX8_isSound wsX8_worst_r4 := goodIn_r _ [101, 102, 103, 104, 105, 30, 106, 32, 107, 108, 33, 34, 109, 110, 111, 112, 113, 114, 115, 116, 117, 118, 119, 120] (by decide +kernel) (by decide +kernel)
set_option maxRecDepth 20000 in
theorem ggX8_isSound_X8_worst_k5 : GoodIn wsX8_isSound wsX8_worst_r5 := goodIn_r _ [121, 122, 123, 124, 125, 126, 127, 128, 129, 130, 131, 132, 133, 134, 135, 136, 137, 138, 139, 140, 141, 142, 143, 144] (by decide +kernel) (by decide +kernel)
set_option maxRecDepth 20000 in
theorem ggX8_isSound_X8_worst_k6 : GoodIn wsX8_isSound wsX8_worst_r6 := goodIn_r _ [145, 146, 147, 148, 149, 150, 151, 152, 153, 154, 155, 156, 157, 158, 159, 160, 161, 162, 163, 164, 165, 166, 167, 168] (by decide +kernel) (by decide +kernel)
set_option maxRecDepth 20000 in
theorem ggX8_isSound_X8_worst_k7 : GoodIn wsX8_isSound wsX8_worst_r7 := goodIn_r _ [169, 170, 171, 172, 173, 174, 175, 176, 177, 178, 179, 180, 181, 182, 183, 184, 185, 186, 187, 188, 189, 190, 191, 192] (by decide +kernel) (by decide +kernel)
set_option maxRecDepth 20000 in
theorem ggX8_isSound_X8_worst_k8 : GoodIn wsX8_isSound wsX8_worst_r8 := goodIn_r _ [193, 194, 195, 196, 197, 198, 199, 200, 201, 202, 203, 204, 205, 206, 207, 208, 209, 210, 211, 212, 213, 214, 215, 216] (by decide +kernel) (by decide +kernel)
set_option maxRecDepth 20000 in
theorem ggX8_isSound_X8_worst_k9 : GoodIn wsX8_isSound wsX8_worst_r9 := goodIn_r _ [217, 218, 219, 220, 221, 222, 223, 224, 225, 226, 227, 228, 229, 230, 231, 232, 233, 234, 235, 236, 237, 238, 239, 240] (by decide +kernel) (by decide +kernel)
set_option maxRecDepth 20000 in
theorem ggX8_isSound_X8_worst_k10 : GoodIn wsX8_isSound wsX8_worst_r10 := goodIn_r _ [241, 242, 243, 244, 245, 246, 247, 248, 249, 250, 251, 252, 253, 254, 255, 256, 257, 258, 259, 260] (by decide +kernel) (by decide +kernel)
set_option maxRecDepth 20000 in
theorem ggX8_isSound_X8_worst_k11 : GoodIn wsX8_isSound wsX80 := goodIn_r _ [265, 266] (by decide +kernel) (by decide +kernel)
set_option maxRecDepth 20000 in
theorem ggX8_isSound_X8_worst_k12 : GoodIn wsX8_isSound wsX70 := goodIn_r _ [267, 268, 269, 270, 271, 272, 273, 274, 275, 276, 277, 278, 279, 280] (by decide +kernel) (by decide +kernel)
set_option maxRecDepth 20000 in
theorem ggX8_isSound_X8_worst_k13 : GoodIn wsX8_isSound wsX20 := goodIn_r _ [291, 292, 293, 294, 295] (by decide +kernel) (by decide +kernel)
set_option maxRecDepth 20000 in
theorem ggX8_isSound_X8_worst_k14 : GoodIn wsX8_isSound wsX10 := goodIn_r _ [296, 297, 298, 299, 300, 301] (by decide +kernel) (by decide +kernel)
set_option maxRecDepth 20000 in
theorem ggX8_isSound_X8_worst_k15 : GoodIn wsX8_isSound wsX50 := goodIn_r _ [281, 282, 283, 284, 285] (by decide +kernel) (by decide +kernel)
set_option maxRecDepth 20000 in
theorem ggX8_isSound_X8_worst_k16 : GoodIn wsX8_isSound wsX40 := goodIn_r _ [302, 303, 304, 305] (by decide +kernel) (by decide +kernel)
set_option maxRecDepth 20000 in
theorem ggX8_isSound_X8_worst_k17 : GoodIn wsX8_isSound wsX00 := goodIn_r _ [286, 287, 288, 289, 290] (by decide +kernel) (by decide +kernel)
set_option maxRecDepth 20000 in
theorem ggX8_isSound_X8_worst_k18 : GoodIn wsX8_isSound wsX60 := goodIn_r _ [306, 307, 308, 309, 310, 311] (by decide +kernel) (by decide +kernel)
set_option maxRecDepth 20000 in
theorem ggX8_isSound_X8_worst_k19 : GoodIn wsX8_isSound wsX30 := goodIn_r _ [312, 313] (by decide +kernel) (by decide +kernel)
set_option maxRecDepth 20000 in
theorem ggX8_isSound_X8_worst : GoodIn wsX8_isSound wsX8_worst := goodIn_ca (goodIn_cons1 ggX8_isSound_X8_worst_k0 (goodIn_app (goodIn_app (goodIn_app (goodIn_app (goodIn_app (goodIn_app (goodIn_app (goodIn_app (goodIn_app (goodIn_app ggX8_isSound_X8_worst_k1 (goodIn_app ggX8_isSound_X8_worst_k2 (goodIn_app ggX8_isSound_X8_worst_k3 (goodIn_app ggX8_isSound_X8_worst_k4 (goodIn_app ggX8_isSound_X8_worst_k5 (goodIn_app ggX8_isSound_X8_worst_k6 (goodIn_app ggX8_isSound_X8_worst_k7 (goodIn_app ggX8_isSound_X8_worst_k8 (goodIn_app ggX8_isSound_X8_worst_k9 ggX8_isSound_X8_worst_k10))))))))) ggX8_isSound_X8_worst_k11) ggX8_isSound_X8_worst_k12) ggX8_isSound_X8_worst_k13) ggX8_isSound_X8_worst_k14) ggX8_isSound_X8_worst_k15) ggX8_isSound_X8_worst_k16) ggX8_isSound_X8_worst_k17) ggX8_isSound_X8_worst_k18) ggX8_isSound_X8_worst_k19)) (goodIn_sub (fun _ h => List.mem_cons_of_mem _ (List.mem_append_right _ h)) (by decide +kernel))
set_option maxRecDepth 20000 in
theorem gX8_isSound_X8_worst : GoodIn wsX8_isSound (wsV RX8 259 RX8 yX8_worst wsX8_worst) := goodIn_app (goodIn_of _ (by decide +kernel)) ggX8_isSound_X8_worst
set_option maxRecDepth 20000 in
theorem ggX8_isSound_X8_timeLeft_k0 : GoodIn wsX8_isSound [.code yX8_timeLeft cX8_timeLeft 1 (some .int)] := goodIn_r _ [264] (by decide +kernel) (by decide +kernel)
set_option maxRecDepth 20000 in
theorem ggX8_isSound_X8_timeLeft_k1 : GoodIn wsX8_isSound wsX8_timeLeft_r1 := goodIn_r _ [42, 43, 44, 38, 45, 1, 46, 47, 40, 48, 49, 50, 51, 52, 53, 54, 55, 56, 57, 58, 59, 8, 60, 11] (by decide +kernel) (by decide +kernel)
set_option maxRecDepth 20000 in
theorem ggX8_isSound_X8_timeLeft_k2 : GoodIn wsX8_isSound wsX8_timeLeft_r2 := goodIn_r _ [61, 62, 63, 64, 65, 66, 67, 68, 69, 13, 14, 10, 70, 71, 72, 18, 73, 20, 21, 26, 74, 75, 76, 77] (by decide +kernel) (by decide +kernel)
set_option maxRecDepth 20000 in
theorem ggX8_isSound_X8_timeLeft_k3 : GoodIn wsX8_isSound wsX8_timeLeft_r3 := goodIn_r _ [78, 79, 80, 81, 82, 83, 84, 85, 86, 87, 88, 89, 90, 91, 92, 93, 94, 95, 96, 97, 98, 99, 100, 101] (by decide +kernel) (by decide +kernel)
set_option maxRecDepth 20000 in
theorem ggX8_isSound_X8_timeLeft_k4 : GoodIn wsX8_isSound wsX8_timeLeft_r4 := goodIn_r _ [102, 103, 104, 105, 30, 106, 32, 107, 108, 33, 34, 109, 110, 111, 112, 113, 114, 115, 116, 117, 118, 119, 120, 121] (by decide +kernel) (by decide +kernel)
set_option maxRecDepth 20000 in
theorem ggX8_isSound_X8_timeLeft_k5 : GoodIn wsX8_isSound wsX8_timeLeft_r5 := goodIn_r _ [122, 123, 124, 125, 126, 127, 128, 129, 130, 131, 132, 133, 134, 135, 136, 137, 138, 139, 140, 141, 142, 143, 144, 145] (by decide +kernel) (by decide +kernel)
set_option maxRecDepth 20000 in
theorem ggX8_isSound_X8_timeLeft_k6 : GoodIn wsX8_isSound wsX8_timeLeft_r6 := goodIn_r _ [146, 147, 148, 149, 150, 151, 152, 153, 154, 155, 156, 157, 158, 159, 160, 161, 162, 163, 164, 165, 166, 167, 168, 169] (by decide +kernel) (by decide +kernel)
set_option maxRecDepth 20000 in
theorem ggX8_isSound_X8_timeLeft_k7 : GoodIn wsX8_isSound wsX8_timeLeft_r7 := goodIn_r _ [170, 171, 172, 173, 174, 175, 176, 177, 178, 179, 180, 181, 182, 183, 184, 185, 186, 187, 188, 189, 190, 191, 192, 193] (by decide +kernel) (by decide +kernel)
set_option maxRecDepth 20000 in
theorem ggX8_isSound_X8_timeLeft_k8 : GoodIn wsX8_isSound wsX8_timeLeft_r8 := goodIn_r _ [194, 195, 196, 197, 198, 199, 200, 201, 202, 203, 204, 205, 206, 207, 208, 209, 210, 211, 212, 213, 214, 215, 216, 217] (by decide +kernel) (by decide +kernel)
set_option maxRecDepth 20000 in
theorem ggX8_isSound_X8_timeLeft_k9 : GoodIn wsX8_isSound wsX8_timeLeft_r9 := goodIn_r _ [218, 219, 220, 221, 222, 223, 224, 225, 226, 227, 228, 229, 230, 231, 232, 233, 234, 235, 236, 237, 238, 239, 240, 241] (by decide +kernel) (by decide +kernel)
set_option maxRecDepth 20000 in
theorem ggX8_isSound_X8_timeLeft_k10 : GoodIn wsX8_isSound wsX8_timeLeft_r10 := goodIn_r _ [242, 243, 244, 245, 246, 247, 248, 249, 250, 251, 252, 253, 254, 255, 256, 257, 258, 259, 260] (by decide +kernel) (by decide +kernel)
set_option maxRecDepth 20000 in
theorem ggX8_isSound_X8_timeLeft_k11 : GoodIn wsX8_isSound wsX80 := goodIn_r _ [265, 266] (by decide +kernel) (by decide +kernel)
set_option maxRecDepth 20000 in
theorem ggX8_isSound_X8_timeLeft_k12 : GoodIn wsX8_isSound wsX70 := goodIn_r _ [267, 268, 269, 270, 271, 272, 273, 274, 275, 276, 277, 278, 279, 280] (by decide +kernel) (by decide +kernel)
set_option maxRecDepth 20000 in
theorem ggX8_isSound_X8_timeLeft_k13 : GoodIn wsX8_isSound wsX20 := goodIn_r _ [291, 292, 293, 294, 295] (by decide +kernel) (by decide +kernel)
set_option maxRecDepth 20000 in
theorem ggX8_isSound_X8_timeLeft_k14 : GoodIn wsX8_isSound wsX10 := goodIn_r _ [296, 297, 298, 299, 300, 301] (by decide +kernel) (by decide +kernel)
set_option maxRecDepth 20000 in
theorem ggX8_isSound_X8_timeLeft_k15 : GoodIn wsX8_isSound wsX50 := goodIn_r _ [281, 282, 283, 284, 285] (by decide +kernel) (by decide +kernel)
set_option maxRecDepth 20000 in
theorem ggX8_isSound_X8_timeLeft_k16 : GoodIn wsX8_isSound wsX40 := goodIn_r _ [302, 303, 304, 305] (by decide +kernel) (by decide +kernel)
set_option maxRecDepth 20000 in
theorem ggX8_isSound_X8_timeLeft_k17 : GoodIn wsX8_isSound wsX00 := goodIn_r _ [286, 287, 288, 289, 290] (by decide +kernel) (by decide +kernel)
set_option maxRecDepth 20000 in
theorem ggX8_isSound_X8_timeLeft_k18 : GoodIn wsX8_isSound wsX60 := goodIn_r _ [306, 307, 308, 309, 310, 311] (by decide +kernel) (by decide +kernel)
set_option maxRecDepth 20000 in
theorem ggX8_isSound_X8_timeLeft_k19 : GoodIn wsX8_isSound wsX30 := goodIn_r _ [312, 313] (by decide +kernel) (by decide +kernel)
set_option maxRecDepth 20000 in
theorem ggX8_isSound_X8_timeLeft : GoodIn wsX8_isSound wsX8_timeLeft := goodIn_ca (goodIn_cons1 ggX8_isSound_X8_timeLeft_k0 (goodIn_app (goodIn_app (goodIn_app (goodIn_app (goodIn_app (goodIn_app (goodIn_app (goodIn_app (goodIn_app (goodIn_app ggX8_isSound_X8_timeLeft_k1 (goodIn_app ggX8_isSound_X8_timeLeft_k2 (goodIn_app ggX8_isSound_X8_timeLeft_k3 (goodIn_app ggX8_isSound_X8_timeLeft_k4 (goodIn_app ggX8_isSound_X8_timeLeft_k5 (goodIn_app ggX8_isSound_X8_timeLeft_k6 (goodIn_app ggX8_isSound_X8_timeLeft_k7 (goodIn_app ggX8_isSound_X8_timeLeft_k8 (goodIn_app ggX8_isSound_X8_timeLeft_k9 ggX8_isSound_X8_timeLeft_k10))))))))) ggX8_isSound_X8_timeLeft_k11) ggX8_isSound_X8_timeLeft_k12) ggX8_isSound_X8_timeLeft_k13) ggX8_isSound_X8_timeLeft_k14) ggX8_isSound_X8_timeLeft_k15) ggX8_isSound_X8_timeLeft_k16) ggX8_isSound_X8_timeLeft_k17) ggX8_isSound_X8_timeLeft_k18) ggX8_isSound_X8_timeLeft_k19)) (goodIn_sub (fun _ h => List.mem_cons_of_mem _ (List.mem_append_right _ h)) (by decide +kernel))
set_option maxRecDepth 20000 in
theorem gX8_isSound_X8_timeLeft : GoodIn wsX8_isSound (wsV RX8 262 RX8 yX8_timeLeft wsX8_timeLeft) := goodIn_app (goodIn_of _ (by decide +kernel)) ggX8_isSound_X8_timeLeft
theorem dX8_isSound_0 : decode cX8_isSound 0 = .ok (.aload_n 0, 1) := by decide +kernel
theorem dX8_isSound_1 : decode cX8_isSound 1 = .ok (.getfield 14, 3) := by decide +kernel
theorem dX8_isSound_4 : decode cX8_isSound 4 = .ok (.invokevirtual 252, 3) := by decide +kernel
theorem dX8_isSound_7 : decode cX8_isSound 7 = .ok (.ifCond .eq 61, 3) := by decide +kernel
theorem dX8_isSound_10 : decode cX8_isSound 10 = .ok (.aload_n 0, 1) := by decide +kernel
theorem dX8_isSound_11 : decode cX8_isSound 11 = .ok (.getfield 14, 3) := by decide +kernel
theorem dX8_isSound_14 : decode cX8_isSound 14 = .ok (.getfield 214, 3) := by decide +kernel
theorem dX8_isSound_17 : decode cX8_isSound 17 = .ok (.ifCond .lt 51, 3) := by decide +kernel
theorem dX8_isSound_20 : decode cX8_isSound 20 = .ok (.aload_n 0, 1) := by decide +kernel
theorem dX8_isSound_21 : decode cX8_isSound 21 = .ok (.getfield 14, 3) := by decide +kernel
theorem dX8_isSound_24 : decode cX8_isSound 24 = .ok (.getfield 214, 3) := by decide +kernel
theorem dX8_isSound_27 : decode cX8_isSound 27 = .ok (.sipush 200, 3) := by decide +kernel
theorem dX8_isSound_30 : decode cX8_isSound 30 = .ok (.if_icmp .gt 38, 3) := by decide +kernel
theorem dX8_isSound_33 : decode cX8_isSound 33 = .ok (.aload_n 0, 1) := by decide +kernel
theorem dX8_isSound_34 : decode cX8_isSound 34 = .ok (.getfield 14, 3) := by decide +kernel
theorem dX8_isSound_37 : decode cX8_isSound 37 = .ok (.getfield 151, 3) := by decide +kernel
theorem dX8_isSound_40 : decode cX8_isSound 40 = .ok (.aload_n 0, 1) := by decide +kernel
theorem dX8_isSound_41 : decode cX8_isSound 41 = .ok (.getfield 14, 3) := by decide +kernel
theorem dX8_isSound_44 : decode cX8_isSound 44 = .ok (.getfield 162, 3) := by decide +kernel
theorem dX8_isSound_47 : decode cX8_isSound 47 = .ok (.invokevirtual 255, 3) := by decide +kernel
theorem dX8_isSound_50 : decode cX8_isSound 50 = .ok (.ifCond .ne 18, 3) := by decide +kernel
theorem dX8_isSound_53 : decode cX8_isSound 53 = .ok (.aload_n 0, 1) := by decide +kernel
theorem dX8_isSound_54 : decode cX8_isSound 54 = .ok (.invokevirtual 259, 3) := by decide +kernel
theorem dX8_isSound_57 : decode cX8_isSound 57 = .ok (.aload_n 0, 1) := by decide +kernel
theorem dX8_isSound_58 : decode cX8_isSound 58 = .ok (.invokevirtual 262, 3) := by decide +kernel
theorem dX8_isSound_61 : decode cX8_isSound 61 = .ok (.if_icmp .gt 7, 3) := by decide +kernel
theorem dX8_isSound_64 : decode cX8_isSound 64 = .ok (.iconst 1, 1) := by decide +kernel
theorem dX8_isSound_65 : decode cX8_isSound 65 = .ok (.goto 4, 3) := by decide +kernel
theorem dX8_isSound_69 : decode cX8_isSound 69 = .ok (.ireturn, 1) := by decide +kernel
set_option maxRecDepth 20000 in
theorem ggX8_minutesToDeath_X1_alive : GoodIn wsX8_minutesToDeath wsX1_alive := goodIn_r _ [11, 12, 13, 252, 253, 254, 255, 256, 257] (by decide +kernel) (by decide +kernel)
set_option maxRecDepth 20000 in
theorem gX8_minutesToDeath_X1_alive : GoodIn wsX8_minutesToDeath (wsV RX8 243 RX1 yX1_alive wsX1_alive) := goodIn_app (goodIn_of _ (by decide +kernel)) ggX8_minutesToDeath_X1_alive
theorem dX8_minutesToDeath_0 : decode cX8_minutesToDeath 0 = .ok (.aload_n 0, 1) := by decide +kernel
theorem dX8_minutesToDeath_1 : decode cX8_minutesToDeath 1 = .ok (.getfield 14, 3) := by decide +kernel
theorem dX8_minutesToDeath_4 : decode cX8_minutesToDeath 4 = .ok (.getfield 119, 3) := by decide +kernel
theorem dX8_minutesToDeath_7 : decode cX8_minutesToDeath 7 = .ok (.invokevirtual 243, 3) := by decide +kernel
theorem dX8_minutesToDeath_10 : decode cX8_minutesToDeath 10 = .ok (.ifCond .ne 5, 3) := by decide +kernel
theorem dX8_minutesToDeath_13 : decode cX8_minutesToDeath 13 = .ok (.iload_n 2, 1) := by decide +kernel
theorem dX8_minutesToDeath_14 : decode cX8_minutesToDeath 14 = .ok (.ireturn, 1) := by decide +kernel
set_option maxRecDepth 20000 in
theorem ggX8_requireRoom_X8_requireIndex : GoodIn wsX8_requireRoom wsX8_requireIndex := goodIn_ca (goodIn_r _ [7, 8, 9] (by decide +kernel) (by decide +kernel)) (goodIn_sub (fun _ h => List.mem_cons_of_mem _ (List.mem_append_right _ h)) (by decide +kernel))
set_option maxRecDepth 20000 in
theorem gX8_requireRoom_X8_requireIndex : GoodIn wsX8_requireRoom (va_wsS RX8 73 yX8_requireIndex wsX8_requireIndex) := goodIn_app (goodIn_of _ (by decide +kernel)) ggX8_requireRoom_X8_requireIndex
theorem dX8_requireRoom_0 : decode cX8_requireRoom 0 = .ok (.iload_n 1, 1) := by decide +kernel
theorem dX8_requireRoom_1 : decode cX8_requireRoom 1 = .ok (.aload_n 0, 1) := by decide +kernel
theorem dX8_requireRoom_2 : decode cX8_requireRoom 2 = .ok (.getfield 14, 3) := by decide +kernel
theorem dX8_requireRoom_5 : decode cX8_requireRoom 5 = .ok (.getfield 25, 3) := by decide +kernel
theorem dX8_requireRoom_8 : decode cX8_requireRoom 8 = .ok (.getfield 236, 3) := by decide +kernel
theorem dX8_requireRoom_11 : decode cX8_requireRoom 11 = .ok (.invokestatic 73, 3) := by decide +kernel
theorem dX8_requireIndex_0 : decode cX8_requireIndex 0 = .ok (.iload_n 0, 1) := by decide +kernel
theorem dX8_requireIndex_1 : decode cX8_requireIndex 1 = .ok (.ifCond .lt 8, 3) := by decide +kernel
theorem dX8_requireIndex_4 : decode cX8_requireIndex 4 = .ok (.iload_n 0, 1) := by decide +kernel
theorem dX8_requireIndex_5 : decode cX8_requireIndex 5 = .ok (.iload_n 1, 1) := by decide +kernel
theorem dX8_requireIndex_6 : decode cX8_requireIndex 6 = .ok (.if_icmp .lt 14, 3) := by decide +kernel
theorem dX8_requireIndex_9 : decode cX8_requireIndex 9 = .ok (.new 277, 3) := by decide +kernel
theorem dX8_requireIndex_12 : decode cX8_requireIndex 12 = .ok (.dup, 1) := by decide +kernel
theorem dX8_requireIndex_13 : decode cX8_requireIndex 13 = .ok (.ldc_w 279, 3) := by decide +kernel
theorem dX8_requireIndex_16 : decode cX8_requireIndex 16 = .ok (.invokespecial 281, 3) := by decide +kernel
theorem dX8_requireIndex_19 : decode cX8_requireIndex 19 = .ok (.athrow, 1) := by decide +kernel
theorem dX8_requireRange_0 : decode cX8_requireRange 0 = .ok (.iload_n 0, 1) := by decide +kernel
theorem dX8_requireRange_1 : decode cX8_requireRange 1 = .ok (.iload_n 1, 1) := by decide +kernel
theorem dX8_requireRange_2 : decode cX8_requireRange 2 = .ok (.if_icmp .lt 8, 3) := by decide +kernel
theorem dX8_requireRange_5 : decode cX8_requireRange 5 = .ok (.iload_n 0, 1) := by decide +kernel
theorem dX8_requireRange_6 : decode cX8_requireRange 6 = .ok (.iload_n 2, 1) := by decide +kernel
theorem dX8_requireRange_7 : decode cX8_requireRange 7 = .ok (.if_icmp .le 14, 3) := by decide +kernel
theorem dX8_requireRange_10 : decode cX8_requireRange 10 = .ok (.new 53, 3) := by decide +kernel
theorem dX8_requireRange_13 : decode cX8_requireRange 13 = .ok (.dup, 1) := by decide +kernel
theorem dX8_requireRange_14 : decode cX8_requireRange 14 = .ok (.ldc_w 282, 3) := by decide +kernel
theorem dX8_requireRange_17 : decode cX8_requireRange 17 = .ok (.invokespecial 57, 3) := by decide +kernel
theorem dX8_requireRange_20 : decode cX8_requireRange 20 = .ok (.athrow, 1) := by decide +kernel
theorem dX8_requireRange_21 : decode cX8_requireRange 21 = .ok (.return_, 1) := by decide +kernel
theorem dX13_init_0 : decode cX13_init 0 = .ok (.aload_n 0, 1) := by decide +kernel
theorem dX13_init_1 : decode cX13_init 1 = .ok (.invokespecial 1, 3) := by decide +kernel
theorem dX13_init_4 : decode cX13_init 4 = .ok (.aload_n 0, 1) := by decide +kernel
theorem dX13_init_5 : decode cX13_init 5 = .ok (.iconst 0, 1) := by decide +kernel
theorem dX13_init_6 : decode cX13_init 6 = .ok (.putfield 7, 3) := by decide +kernel
theorem dX13_init_9 : decode cX13_init 9 = .ok (.aload_n 0, 1) := by decide +kernel
theorem dX13_init_10 : decode cX13_init 10 = .ok (.bipush 20, 2) := by decide +kernel
theorem dX13_init_12 : decode cX13_init 12 = .ok (.putfield 13, 3) := by decide +kernel
theorem dX13_init_15 : decode cX13_init 15 = .ok (.aload_n 0, 1) := by decide +kernel
theorem dX13_init_16 : decode cX13_init 16 = .ok (.iload_n 1, 1) := by decide +kernel
theorem dX13_init_17 : decode cX13_init 17 = .ok (.putfield 16, 3) := by decide +kernel
theorem dX13_init_20 : decode cX13_init 20 = .ok (.aload_n 0, 1) := by decide +kernel
theorem dX13_init_21 : decode cX13_init 21 = .ok (.iload_n 2, 1) := by decide +kernel
theorem dX13_init_22 : decode cX13_init 22 = .ok (.putfield 19, 3) := by decide +kernel
theorem dX13_init_25 : decode cX13_init 25 = .ok (.return_, 1) := by decide +kernel
set_option maxRecDepth 20000 in
theorem ggX14_init_Jx4a65c_init_da8c8 : GoodIn wsX14_init wsJx4a65c_init_da8c8 := goodIn_r _ [23, 24, 25, 26, 27, 28, 29, 30, 31, 32, 33, 34, 35, 2, 3, 36, 37, 38] (by decide +kernel) (by decide +kernel)
set_option maxRecDepth 20000 in
theorem gX14_init_Jx4a65c_init_da8c8 : GoodIn wsX14_init (wsJx4a65c_init_da8c8) := ggX14_init_Jx4a65c_init_da8c8
theorem dX14_init_0 : decode cX14_init 0 = .ok (.aload_n 0, 1) := by decide +kernel
theorem dX14_init_1 : decode cX14_init 1 = .ok (.invokespecial 3, 3) := by decide +kernel
theorem dX14_init_4 : decode cX14_init 4 = .ok (.aload_n 0, 1) := by decide +kernel
theorem dX14_init_5 : decode cX14_init 5 = .ok (.new 9, 3) := by decide +kernel
theorem dX14_init_8 : decode cX14_init 8 = .ok (.dup, 1) := by decide +kernel
theorem dX14_init_9 : decode cX14_init 9 = .ok (.invokespecial 11, 3) := by decide +kernel
theorem dX14_init_12 : decode cX14_init 12 = .ok (.putfield 12, 3) := by decide +kernel
theorem dX14_init_15 : decode cX14_init 15 = .ok (.aload_n 0, 1) := by decide +kernel
theorem dX14_init_16 : decode cX14_init 16 = .ok (.new 9, 3) := by decide +kernel
theorem dX14_init_19 : decode cX14_init 19 = .ok (.dup, 1) := by decide +kernel
theorem dX14_init_20 : decode cX14_init 20 = .ok (.invokespecial 11, 3) := by decide +kernel
theorem dX14_init_23 : decode cX14_init 23 = .ok (.putfield 18, 3) := by decide +kernel
theorem dX14_init_26 : decode cX14_init 26 = .ok (.aload_n 0, 1) := by decide +kernel
theorem dX14_init_27 : decode cX14_init 27 = .ok (.new 9, 3) := by decide +kernel
theorem dX14_init_30 : decode cX14_init 30 = .ok (.dup, 1) := by decide +kernel
theorem dX14_init_31 : decode cX14_init 31 = .ok (.invokespecial 11, 3) := by decide +kernel
theorem dX14_init_34 : decode cX14_init 34 = .ok (.putfield 21, 3) := by decide +kernel
theorem dX14_init_37 : decode cX14_init 37 = .ok (.aload_n 0, 1) := by decide +kernel
theorem dX14_init_38 : decode cX14_init 38 = .ok (.new 9, 3) := by decide +kernel
theorem dX14_init_41 : decode cX14_init 41 = .ok (.dup, 1) := by decide +kernel
theorem dX14_init_42 : decode cX14_init 42 = .ok (.invokespecial 11, 3) := by decide +kernel
theorem dX14_init_45 : decode cX14_init 45 = .ok (.putfield 24, 3) := by decide +kernel
theorem dX14_init_48 : decode cX14_init 48 = .ok (.aload_n 0, 1) := by decide +kernel
theorem dX14_init_49 : decode cX14_init 49 = .ok (.new 9, 3) := by decide +kernel
theorem dX14_init_52 : decode cX14_init 52 = .ok (.dup, 1) := by decide +kernel
theorem dX14_init_53 : decode cX14_init 53 = .ok (.invokespecial 11, 3) := by decide +kernel
theorem dX14_init_56 : decode cX14_init 56 = .ok (.putfield 27, 3) := by decide +kernel
theorem dX14_init_59 : decode cX14_init 59 = .ok (.aload_n 0, 1) := by decide +kernel
theorem dX14_init_60 : decode cX14_init 60 = .ok (.new 9, 3) := by decide +kernel
theorem dX14_init_63 : decode cX14_init 63 = .ok (.dup, 1) := by decide +kernel
theorem dX14_init_64 : decode cX14_init 64 = .ok (.invokespecial 11, 3) := by decide +kernel
theorem dX14_init_67 : decode cX14_init 67 = .ok (.putfield 30, 3) := by decide +kernel
theorem dX14_init_70 : decode cX14_init 70 = .ok (.aload_n 0, 1) := by decide +kernel
theorem dX14_init_71 : decode cX14_init 71 = .ok (.new 9, 3) := by decide +kernel
theorem dX14_init_74 : decode cX14_init 74 = .ok (.dup, 1) := by decide +kernel
theorem dX14_init_75 : decode cX14_init 75 = .ok (.invokespecial 11, 3) := by decide +kernel
theorem dX14_init_78 : decode cX14_init 78 = .ok (.putfield 33, 3) := by decide +kernel
theorem dX14_init_81 : decode cX14_init 81 = .ok (.aload_n 0, 1) := by decide +kernel
theorem dX14_init_82 : decode cX14_init 82 = .ok (.new 9, 3) := by decide +kernel
theorem dX14_init_85 : decode cX14_init 85 = .ok (.dup, 1) := by decide +kernel
theorem dX14_init_86 : decode cX14_init 86 = .ok (.invokespecial 11, 3) := by decide +kernel
theorem dX14_init_89 : decode cX14_init 89 = .ok (.putfield 36, 3) := by decide +kernel
theorem dX14_init_92 : decode cX14_init 92 = .ok (.aload_n 0, 1) := by decide +kernel
theorem dX14_init_93 : decode cX14_init 93 = .ok (.new 9, 3) := by decide +kernel
theorem dX14_init_96 : decode cX14_init 96 = .ok (.dup, 1) := by decide +kernel
theorem dX14_init_97 : decode cX14_init 97 = .ok (.invokespecial 11, 3) := by decide +kernel
theorem dX14_init_100 : decode cX14_init 100 = .ok (.putfield 39, 3) := by decide +kernel
theorem dX14_init_103 : decode cX14_init 103 = .ok (.aload_n 0, 1) := by decide +kernel
theorem dX14_init_104 : decode cX14_init 104 = .ok (.bipush 10, 2) := by decide +kernel
theorem dX14_init_106 : decode cX14_init 106 = .ok (.putfield 42, 3) := by decide +kernel
theorem dX14_init_109 : decode cX14_init 109 = .ok (.aload_n 0, 1) := by decide +kernel
theorem dX14_init_110 : decode cX14_init 110 = .ok (.bipush 100, 2) := by decide +kernel
theorem dX14_init_112 : decode cX14_init 112 = .ok (.putfield 46, 3) := by decide +kernel
theorem dX14_init_115 : decode cX14_init 115 = .ok (.aload_n 0, 1) := by decide +kernel
theorem dX14_init_116 : decode cX14_init 116 = .ok (.bipush 50, 2) := by decide +kernel
theorem dX14_init_118 : decode cX14_init 118 = .ok (.putfield 49, 3) := by decide +kernel
theorem dX14_init_121 : decode cX14_init 121 = .ok (.aload_n 0, 1) := by decide +kernel
theorem dX14_init_122 : decode cX14_init 122 = .ok (.iconst 0, 1) := by decide +kernel
theorem dX14_init_123 : decode cX14_init 123 = .ok (.putfield 52, 3) := by decide +kernel
theorem dX14_init_126 : decode cX14_init 126 = .ok (.aload_n 0, 1) := by decide +kernel
theorem dX14_init_127 : decode cX14_init 127 = .ok (.iconst 0, 1) := by decide +kernel
theorem dX14_init_128 : decode cX14_init 128 = .ok (.putfield 55, 3) := by decide +kernel
theorem dX14_init_131 : decode cX14_init 131 = .ok (.return_, 1) := by decide +kernel
set_option maxRecDepth 20000 in
theorem ggX14_copy_X14_init : GoodIn wsX14_copy wsX14_init := goodIn_r _ [48, 49, 50, 51, 52, 53, 54, 4, 5, 6, 8, 16, 24, 32, 7, 55, 41, 42, 43, 44, 45, 56, 57, 58, 59, 60, 61, 62, 63, 64, 65, 66, 67, 68, 69, 70, 220, 221, 222, 192, 193, 194, 195, 196, 197, 198, 199, 200, 201, 202, 203, 204, 205] (by decide +kernel) (by decide +kernel)
set_option maxRecDepth 20000 in
theorem gX14_copy_X14_init : GoodIn wsX14_copy (wsX14_init) := ggX14_copy_X14_init
set_option maxRecDepth 20000 in
theorem ggX14_copy_Jx4a65c_addAll_f0b43 : GoodIn wsX14_copy wsJx4a65c_addAll_f0b43 := goodIn_r _ [74, 75, 76, 60, 77, 78, 79, 80, 81, 82, 83, 84, 54, 85, 86, 87, 88, 89, 90, 91, 92, 93, 94, 95, 96, 97, 98, 99, 100, 101, 102, 103, 104, 105, 106, 107, 59, 108, 109, 110, 111, 112, 113, 114, 115, 116, 117, 118, 119, 120, 220, 221, 222] (by decide +kernel) (by decide +kernel)
set_option maxRecDepth 20000 in
theorem gX14_copy_Jx4a65c_addAll_f0b43_f60Jx4a65c : GoodIn wsX14_copy (va_wsF RX14 60 RJx4a65c ⟨"java/util/List", "addAll", "(Ljava/util/Collection;)Z"⟩ yJx4a65c_addAll_f0b43 wsJx4a65c_addAll_f0b43) := goodIn_app (goodIn_of _ (by decide +kernel)) ggX14_copy_Jx4a65c_addAll_f0b43
set_option maxRecDepth 20000 in
theorem ggX14_copy_Jx4a65c_iterator_32c93 : GoodIn wsX14_copy wsJx4a65c_iterator_32c93 := goodIn_r _ [124, 125, 126, 127, 128, 129, 130, 131, 132, 50, 51, 133, 134, 76, 135, 223, 224, 225, 226, 220, 221, 222] (by decide +kernel) (by decide +kernel)
set_option maxRecDepth 20000 in
theorem gX14_copy_Jx4a65c_iterator_32c93_f66Jx4a65c : GoodIn wsX14_copy (va_wsF RX14 66 RJx4a65c ⟨"java/util/List", "iterator", "()Ljava/util/Iterator;"⟩ yJx4a65c_iterator_32c93 wsJx4a65c_iterator_32c93) := goodIn_app (goodIn_of _ (by decide +kernel)) ggX14_copy_Jx4a65c_iterator_32c93
set_option maxRecDepth 20000 in
theorem ggX14_copy_Jx35411_hasNext_aae02 : GoodIn wsX14_copy wsJx35411_hasNext_aae02 := goodIn_r _ [139, 140, 131, 223, 224, 225, 226, 220, 221, 222] (by decide +kernel) (by decide +kernel)
set_option maxRecDepth 20000 in
theorem gX14_copy_Jx35411_hasNext_aae02_f70Jx35411 : GoodIn wsX14_copy (va_wsF RX14 70 RJx35411 ⟨"java/util/Iterator", "hasNext", "()Z"⟩ yJx35411_hasNext_aae02 wsJx35411_hasNext_aae02) := goodIn_app (goodIn_of _ (by decide +kernel)) ggX14_copy_Jx35411_hasNext_aae02
theorem dX14_copy_0 : decode cX14_copy 0 = .ok (.new 13, 3) := by decide +kernel
theorem dX14_copy_3 : decode cX14_copy 3 = .ok (.dup, 1) := by decide +kernel
theorem dX14_copy_4 : decode cX14_copy 4 = .ok (.invokespecial 59, 3) := by decide +kernel
theorem dX14_copy_7 : decode cX14_copy 7 = .ok (.astore_n 1, 1) := by decide +kernel
theorem dX14_copy_8 : decode cX14_copy 8 = .ok (.aload_n 1, 1) := by decide +kernel
theorem dX14_copy_9 : decode cX14_copy 9 = .ok (.getfield 12, 3) := by decide +kernel
theorem dX14_copy_12 : decode cX14_copy 12 = .ok (.aload_n 0, 1) := by decide +kernel
theorem dX14_copy_13 : decode cX14_copy 13 = .ok (.getfield 12, 3) := by decide +kernel
theorem dX14_copy_16 : decode cX14_copy 16 = .ok (.invokeinterface 60 2, 5) := by decide +kernel
theorem dX14_copy_21 : decode cX14_copy 21 = .ok (.pop, 1) := by decide +kernel
theorem dX14_copy_22 : decode cX14_copy 22 = .ok (.aload_n 1, 1) := by decide +kernel
theorem dX14_copy_23 : decode cX14_copy 23 = .ok (.getfield 18, 3) := by decide +kernel
theorem dX14_copy_26 : decode cX14_copy 26 = .ok (.aload_n 0, 1) := by decide +kernel
theorem dX14_copy_27 : decode cX14_copy 27 = .ok (.getfield 18, 3) := by decide +kernel
theorem dX14_copy_30 : decode cX14_copy 30 = .ok (.invokeinterface 60 2, 5) := by decide +kernel
theorem dX14_copy_35 : decode cX14_copy 35 = .ok (.pop, 1) := by decide +kernel
theorem dX14_copy_36 : decode cX14_copy 36 = .ok (.aload_n 1, 1) := by decide +kernel
theorem dX14_copy_37 : decode cX14_copy 37 = .ok (.getfield 21, 3) := by decide +kernel
theorem dX14_copy_40 : decode cX14_copy 40 = .ok (.aload_n 0, 1) := by decide +kernel
theorem dX14_copy_41 : decode cX14_copy 41 = .ok (.getfield 21, 3) := by decide +kernel
theorem dX14_copy_44 : decode cX14_copy 44 = .ok (.invokeinterface 60 2, 5) := by decide +kernel
theorem dX14_copy_49 : decode cX14_copy 49 = .ok (.pop, 1) := by decide +kernel
theorem dX14_copy_50 : decode cX14_copy 50 = .ok (.aload_n 1, 1) := by decide +kernel
theorem dX14_copy_51 : decode cX14_copy 51 = .ok (.getfield 36, 3) := by decide +kernel
theorem dX14_copy_54 : decode cX14_copy 54 = .ok (.aload_n 0, 1) := by decide +kernel
theorem dX14_copy_55 : decode cX14_copy 55 = .ok (.getfield 36, 3) := by decide +kernel
theorem dX14_copy_58 : decode cX14_copy 58 = .ok (.invokeinterface 60 2, 5) := by decide +kernel
theorem dX14_copy_63 : decode cX14_copy 63 = .ok (.pop, 1) := by decide +kernel
theorem dX14_copy_64 : decode cX14_copy 64 = .ok (.aload_n 0, 1) := by decide +kernel
theorem dX14_copy_65 : decode cX14_copy 65 = .ok (.getfield 24, 3) := by decide +kernel
theorem dX14_copy_68 : decode cX14_copy 68 = .ok (.invokeinterface 66 1, 5) := by decide +kernel
theorem dX14_copy_73 : decode cX14_copy 73 = .ok (.astore_n 2, 1) := by decide +kernel
theorem dX14_copy_74 : decode cX14_copy 74 = .ok (.aload_n 2, 1) := by decide +kernel
theorem dX14_copy_75 : decode cX14_copy 75 = .ok (.invokeinterface 70 1, 5) := by decide +kernel
theorem dX14_copy_80 : decode cX14_copy 80 = .ok (.ifCond .eq 54, 3) := by decide +kernel
theorem dX14_copy_134 : decode cX14_copy 134 = .ok (.aload_n 0, 1) := by decide +kernel
theorem dX14_copy_135 : decode cX14_copy 135 = .ok (.getfield 27, 3) := by decide +kernel
theorem dX14_copy_138 : decode cX14_copy 138 = .ok (.invokeinterface 66 1, 5) := by decide +kernel
theorem dX14_copy_143 : decode cX14_copy 143 = .ok (.astore_n 2, 1) := by decide +kernel
theorem dX14_copy_144 : decode cX14_copy 144 = .ok (.aload_n 2, 1) := by decide +kernel
theorem dX14_copy_145 : decode cX14_copy 145 = .ok (.invokeinterface 70 1, 5) := by decide +kernel
theorem dX14_copy_150 : decode cX14_copy 150 = .ok (.ifCond .eq 54, 3) := by decide +kernel
theorem dX14_copy_204 : decode cX14_copy 204 = .ok (.aload_n 0, 1) := by decide +kernel
theorem dX14_copy_205 : decode cX14_copy 205 = .ok (.getfield 30, 3) := by decide +kernel
theorem dX14_copy_208 : decode cX14_copy 208 = .ok (.invokeinterface 66 1, 5) := by decide +kernel
theorem dX14_copy_213 : decode cX14_copy 213 = .ok (.astore_n 2, 1) := by decide +kernel
theorem dX14_copy_214 : decode cX14_copy 214 = .ok (.aload_n 2, 1) := by decide +kernel
theorem dX14_copy_215 : decode cX14_copy 215 = .ok (.invokeinterface 70 1, 5) := by decide +kernel
theorem dX14_copy_220 : decode cX14_copy 220 = .ok (.ifCond .eq 59, 3) := by decide +kernel
theorem dX14_copy_279 : decode cX14_copy 279 = .ok (.aload_n 0, 1) := by decide +kernel
theorem dX14_copy_280 : decode cX14_copy 280 = .ok (.getfield 33, 3) := by decide +kernel
theorem dX14_copy_283 : decode cX14_copy 283 = .ok (.invokeinterface 66 1, 5) := by decide +kernel
theorem dX14_copy_288 : decode cX14_copy 288 = .ok (.astore_n 2, 1) := by decide +kernel
theorem dX14_copy_289 : decode cX14_copy 289 = .ok (.aload_n 2, 1) := by decide +kernel
theorem dX14_copy_290 : decode cX14_copy 290 = .ok (.invokeinterface 70 1, 5) := by decide +kernel
theorem dX14_copy_295 : decode cX14_copy 295 = .ok (.ifCond .eq 63, 3) := by decide +kernel
theorem dX14_copy_358 : decode cX14_copy 358 = .ok (.aload_n 1, 1) := by decide +kernel
theorem dX14_copy_359 : decode cX14_copy 359 = .ok (.aload_n 0, 1) := by decide +kernel
theorem dX14_copy_360 : decode cX14_copy 360 = .ok (.getfield 42, 3) := by decide +kernel
theorem dX14_copy_363 : decode cX14_copy 363 = .ok (.putfield 42, 3) := by decide +kernel
theorem dX14_copy_366 : decode cX14_copy 366 = .ok (.aload_n 1, 1) := by decide +kernel
theorem dX14_copy_367 : decode cX14_copy 367 = .ok (.aload_n 0, 1) := by decide +kernel
theorem dX14_copy_368 : decode cX14_copy 368 = .ok (.getfield 46, 3) := by decide +kernel
theorem dX14_copy_371 : decode cX14_copy 371 = .ok (.putfield 46, 3) := by decide +kernel
theorem dX14_copy_374 : decode cX14_copy 374 = .ok (.aload_n 1, 1) := by decide +kernel
theorem dX14_copy_375 : decode cX14_copy 375 = .ok (.aload_n 0, 1) := by decide +kernel
theorem dX14_copy_376 : decode cX14_copy 376 = .ok (.getfield 49, 3) := by decide +kernel
theorem dX14_copy_379 : decode cX14_copy 379 = .ok (.putfield 49, 3) := by decide +kernel
theorem dX14_copy_382 : decode cX14_copy 382 = .ok (.aload_n 1, 1) := by decide +kernel
theorem dX14_copy_383 : decode cX14_copy 383 = .ok (.aload_n 0, 1) := by decide +kernel
theorem dX14_copy_384 : decode cX14_copy 384 = .ok (.getfield 52, 3) := by decide +kernel
theorem dX14_copy_387 : decode cX14_copy 387 = .ok (.putfield 52, 3) := by decide +kernel
theorem dX14_copy_390 : decode cX14_copy 390 = .ok (.aload_n 1, 1) := by decide +kernel
theorem dX14_copy_391 : decode cX14_copy 391 = .ok (.aload_n 0, 1) := by decide +kernel
theorem dX14_copy_392 : decode cX14_copy 392 = .ok (.getfield 55, 3) := by decide +kernel
theorem dX14_copy_395 : decode cX14_copy 395 = .ok (.putfield 55, 3) := by decide +kernel
theorem dX14_copy_398 : decode cX14_copy 398 = .ok (.aload_n 1, 1) := by decide +kernel
theorem dX14_copy_399 : decode cX14_copy 399 = .ok (.areturn, 1) := by decide +kernel
set_option maxRecDepth 20000 in
theorem ggX14_alive_Jx4a65c_iterator_32c93 : GoodIn wsX14_alive wsJx4a65c_iterator_32c93 := goodIn_r _ [8, 9, 10, 11, 12, 13, 14, 15, 16, 17, 18, 19, 20, 21, 22, 54, 55, 56, 57, 58, 59, 60] (by decide +kernel) (by decide +kernel)
set_option maxRecDepth 20000 in
theorem gX14_alive_Jx4a65c_iterator_32c93_f66Jx4a65c : GoodIn wsX14_alive (va_wsF RX14 66 RJx4a65c ⟨"java/util/List", "iterator", "()Ljava/util/Iterator;"⟩ yJx4a65c_iterator_32c93 wsJx4a65c_iterator_32c93) := goodIn_app (goodIn_of _ (by decide +kernel)) ggX14_alive_Jx4a65c_iterator_32c93
set_option maxRecDepth 20000 in
theorem ggX14_alive_Jx35411_hasNext_aae02 : GoodIn wsX14_alive wsJx35411_hasNext_aae02 := goodIn_r _ [26, 27, 15, 54, 55, 56, 57, 58, 59, 60] (by decide +kernel) (by decide +kernel)
set_option maxRecDepth 20000 in
theorem gX14_alive_Jx35411_hasNext_aae02_f70Jx35411 : GoodIn wsX14_alive (va_wsF RX14 70 RJx35411 ⟨"java/util/Iterator", "hasNext", "()Z"⟩ yJx35411_hasNext_aae02 wsJx35411_hasNext_aae02) := goodIn_app (goodIn_of _ (by decide +kernel)) ggX14_alive_Jx35411_hasNext_aae02
theorem dX14_alive_0 : decode cX14_alive 0 = .ok (.iconst 0, 1) := by decide +kernel
theorem dX14_alive_1 : decode cX14_alive 1 = .ok (.istore_n 1, 1) := by decide +kernel
theorem dX14_alive_2 : decode cX14_alive 2 = .ok (.aload_n 0, 1) := by decide +kernel
theorem dX14_alive_3 : decode cX14_alive 3 = .ok (.getfield 30, 3) := by decide +kernel
theorem dX14_alive_6 : decode cX14_alive 6 = .ok (.invokeinterface 66 1, 5) := by decide +kernel
theorem dX14_alive_11 : decode cX14_alive 11 = .ok (.astore_n 2, 1) := by decide +kernel
theorem dX14_alive_12 : decode cX14_alive 12 = .ok (.aload_n 2, 1) := by decide +kernel
theorem dX14_alive_13 : decode cX14_alive 13 = .ok (.invokeinterface 70 1, 5) := by decide +kernel
theorem dX14_alive_18 : decode cX14_alive 18 = .ok (.ifCond .eq 32, 3) := by decide +kernel
theorem dX14_alive_50 : decode cX14_alive 50 = .ok (.iload_n 1, 1) := by decide +kernel
theorem dX14_alive_51 : decode cX14_alive 51 = .ok (.ireturn, 1) := by decide +kernel
set_option maxRecDepth 20000 in
theorem ggX14_passes_X14_commands_k0 : GoodIn wsX14_passes [.code yX14_commands cX14_commands 5 none] := goodIn_r _ [21] (by decide +kernel) (by decide +kernel)
set_option maxRecDepth 20000 in
theorem ggX14_passes_X14_commands_k1 : GoodIn wsX14_passes wsX14_commands_r1 := goodIn_r _ [16, 22, 23, 24, 25, 26, 27, 28, 29, 30, 31, 32, 33, 34, 35, 36, 37, 38, 39, 40, 41, 42, 43, 44] (by decide +kernel) (by decide +kernel)
set_option maxRecDepth 20000 in
theorem ggX14_passes_X14_commands_k2 : GoodIn wsX14_passes wsX14_commands_r2 := goodIn_r _ [45, 46, 47, 48, 49, 50, 51, 52, 53, 54, 55, 56, 57, 58, 59, 60, 61, 62, 63, 64, 65, 66, 67, 68] (by decide +kernel) (by decide +kernel)
set_option maxRecDepth 20000 in
theorem ggX14_passes_X14_commands_k3 : GoodIn wsX14_passes wsX14_commands_r3 := goodIn_r _ [69, 70, 71, 72, 73, 74, 75, 76, 77, 78, 79, 80, 81, 82, 83, 84, 85, 86, 87, 88, 89, 90, 91, 92] (by decide +kernel) (by decide +kernel)
set_option maxRecDepth 20000 in
theorem ggX14_passes_X14_commands_k4 : GoodIn wsX14_passes wsX14_commands_r4 := goodIn_r _ [93, 94, 95, 96, 6, 97, 98, 99, 100, 101, 102, 103, 104, 105, 106, 107, 108, 109, 110, 111, 112, 113, 114, 115] (by decide +kernel) (by decide +kernel)
set_option maxRecDepth 20000 in
theorem ggX14_passes_X14_commands_k5 : GoodIn wsX14_passes wsX14_commands_r5 := goodIn_r _ [116, 117, 118, 119, 120, 121, 5, 7, 122, 123, 124, 125, 20, 126, 127, 128, 129, 130, 131, 8, 9, 10] (by decide +kernel) (by decide +kernel)
set_option maxRecDepth 20000 in
theorem ggX14_passes_X14_commands_k6 : GoodIn wsX14_passes wsX140 := goodIn_r _ [239, 240, 241, 242, 243, 244, 245, 246, 247, 248, 249, 250, 251, 252] (by decide +kernel) (by decide +kernel)
set_option maxRecDepth 20000 in
theorem ggX14_passes_X14_commands_k7 : GoodIn wsX14_passes wsX90 := goodIn_r _ [259, 260, 261, 262] (by decide +kernel) (by decide +kernel)
set_option maxRecDepth 20000 in
theorem ggX14_passes_X14_commands_k8 : GoodIn wsX14_passes wsJx4a65c0 := goodIn_r _ [263, 264, 265] (by decide +kernel) (by decide +kernel)
set_option maxRecDepth 20000 in
theorem ggX14_passes_X14_commands_k9 : GoodIn wsX14_passes wsJ110 := goodIn_r _ [266] (by decide +kernel) (by decide +kernel)
set_option maxRecDepth 20000 in
theorem ggX14_passes_X14_commands_k10 : GoodIn wsX14_passes wsX100 := goodIn_r _ [267, 268, 269, 270] (by decide +kernel) (by decide +kernel)
set_option maxRecDepth 20000 in
theorem ggX14_passes_X14_commands_k11 : GoodIn wsX14_passes wsX110 := goodIn_r _ [253, 254, 255] (by decide +kernel) (by decide +kernel)
set_option maxRecDepth 20000 in
theorem ggX14_passes_X14_commands : GoodIn wsX14_passes wsX14_commands := goodIn_cons1 ggX14_passes_X14_commands_k0 (goodIn_app (goodIn_app (goodIn_app (goodIn_app (goodIn_app (goodIn_app (goodIn_app ggX14_passes_X14_commands_k1 (goodIn_app ggX14_passes_X14_commands_k2 (goodIn_app ggX14_passes_X14_commands_k3 (goodIn_app ggX14_passes_X14_commands_k4 ggX14_passes_X14_commands_k5)))) ggX14_passes_X14_commands_k6) ggX14_passes_X14_commands_k7) ggX14_passes_X14_commands_k8) ggX14_passes_X14_commands_k9) ggX14_passes_X14_commands_k10) ggX14_passes_X14_commands_k11)
set_option maxRecDepth 20000 in
theorem gX14_passes_X14_commands : GoodIn wsX14_passes (wsV RX14 156 RX14 yX14_commands wsX14_commands) := goodIn_app (goodIn_of _ (by decide +kernel)) ggX14_passes_X14_commands
set_option maxRecDepth 20000 in
theorem ggX14_passes_X14_ships_k0 : GoodIn wsX14_passes [.code yX14_ships cX14_ships 3 none] := goodIn_r _ [135] (by decide +kernel) (by decide +kernel)
set_option maxRecDepth 20000 in
theorem ggX14_passes_X14_ships_k1 : GoodIn wsX14_passes wsX14_ships_r1 := goodIn_r _ [136, 137, 138, 139, 140, 141, 26, 142, 143, 144, 30, 145, 146, 147, 148, 149, 150, 151, 152, 153, 75, 76, 154, 155] (by decide +kernel) (by decide +kernel)
set_option maxRecDepth 20000 in
theorem ggX14_passes_X14_ships_k2 : GoodIn wsX14_passes wsX14_ships_r2 := goodIn_r _ [59, 156, 157, 158, 159, 160, 161, 162, 163, 164, 165, 166, 167, 168, 169, 170, 64, 65, 66, 67, 68, 69, 70, 71] (by decide +kernel) (by decide +kernel)
set_option maxRecDepth 20000 in
theorem ggX14_passes_X14_ships_k3 : GoodIn wsX14_passes wsX14_ships_r3 := goodIn_r _ [72, 73, 74, 77, 78, 79, 80, 81, 58, 49, 32, 82, 83, 84, 85, 86, 87, 88, 89, 90, 91, 92, 93, 94] (by decide +kernel) (by decide +kernel)
set_option maxRecDepth 20000 in
theorem ggX14_passes_X14_ships_k4 : GoodIn wsX14_passes wsX14_ships_r4 := goodIn_r _ [95, 96, 6, 97, 98, 99, 100, 101, 102, 103, 104, 105, 106, 107, 108, 109, 110, 111, 112, 113, 114, 115, 116, 117] (by decide +kernel) (by decide +kernel)
set_option maxRecDepth 20000 in
theorem ggX14_passes_X14_ships_k5 : GoodIn wsX14_passes wsX14_ships_r5 := goodIn_r _ [118, 119, 120, 121, 5, 7, 122, 61, 62, 63] (by decide +kernel) (by decide +kernel)
set_option maxRecDepth 20000 in
theorem ggX14_passes_X14_ships_k6 : GoodIn wsX14_passes wsX140 := goodIn_r _ [239, 240, 241, 242, 243, 244, 245, 246, 247, 248, 249, 250, 251, 252] (by decide +kernel) (by decide +kernel)
set_option maxRecDepth 20000 in
theorem ggX14_passes_X14_ships_k7 : GoodIn wsX14_passes wsX130 := goodIn_r _ [271, 272, 273, 274] (by decide +kernel) (by decide +kernel)
set_option maxRecDepth 20000 in
theorem ggX14_passes_X14_ships_k8 : GoodIn wsX14_passes wsJx354110 := goodIn_r _ [275, 276, 277, 278] (by decide +kernel) (by decide +kernel)
set_option maxRecDepth 20000 in
theorem ggX14_passes_X14_ships_k9 : GoodIn wsX14_passes wsJx4a65c0 := goodIn_r _ [263, 264, 265] (by decide +kernel) (by decide +kernel)
set_option maxRecDepth 20000 in
theorem ggX14_passes_X14_ships_k10 : GoodIn wsX14_passes wsJ110 := goodIn_r _ [266] (by decide +kernel) (by decide +kernel)
set_option maxRecDepth 20000 in
theorem ggX14_passes_X14_ships : GoodIn wsX14_passes wsX14_ships := goodIn_cons1 ggX14_passes_X14_ships_k0 (goodIn_app (goodIn_app (goodIn_app (goodIn_app (goodIn_app (goodIn_app ggX14_passes_X14_ships_k1 (goodIn_app ggX14_passes_X14_ships_k2 (goodIn_app ggX14_passes_X14_ships_k3 (goodIn_app ggX14_passes_X14_ships_k4 ggX14_passes_X14_ships_k5)))) ggX14_passes_X14_ships_k6) ggX14_passes_X14_ships_k7) ggX14_passes_X14_ships_k8) ggX14_passes_X14_ships_k9) ggX14_passes_X14_ships_k10)
set_option maxRecDepth 20000 in
theorem gX14_passes_X14_ships : GoodIn wsX14_passes (wsV RX14 158 RX14 yX14_ships wsX14_ships) := goodIn_app (goodIn_of _ (by decide +kernel)) ggX14_passes_X14_ships
set_option maxRecDepth 20000 in
theorem ggX14_passes_X14_devices_k0 : GoodIn wsX14_passes [.code yX14_devices cX14_devices 5 none] := goodIn_r _ [174] (by decide +kernel) (by decide +kernel)
set_option maxRecDepth 20000 in
theorem ggX14_passes_X14_devices_k1 : GoodIn wsX14_passes wsX14_devices_r1 := goodIn_r _ [175, 16, 176, 128, 130, 131, 177, 178, 11, 179, 3, 4, 5, 6, 7, 140, 1, 142, 143, 144, 30, 145, 146, 147] (by decide +kernel) (by decide +kernel)
set_option maxRecDepth 20000 in
theorem ggX14_passes_X14_devices_k2 : GoodIn wsX14_passes wsX14_devices_r2 := goodIn_r _ [148, 149, 150, 151, 152, 153, 75, 76, 154, 155, 59, 156, 157, 158, 159, 160, 161, 162, 163, 164, 165, 166, 167, 168] (by decide +kernel) (by decide +kernel)
set_option maxRecDepth 20000 in
theorem ggX14_passes_X14_devices_k3 : GoodIn wsX14_passes wsX14_devices_r3 := goodIn_r _ [169, 170, 180, 181, 182, 183, 184, 185, 33, 34, 35, 36, 32, 37, 38, 39, 40, 41, 42, 43, 44, 45, 46, 47] (by decide +kernel) (by decide +kernel)
set_option maxRecDepth 20000 in
theorem ggX14_passes_X14_devices_k4 : GoodIn wsX14_passes wsX14_devices_r4 := goodIn_r _ [48, 49, 186, 187, 188, 189, 190, 191, 192, 193, 194, 20, 195, 196, 197, 198, 199, 200, 201, 202, 203, 204, 205, 206] (by decide +kernel) (by decide +kernel)
set_option maxRecDepth 20000 in
theorem ggX14_passes_X14_devices_k5 : GoodIn wsX14_passes wsX14_devices_r5 := goodIn_r _ [207, 208, 209, 210, 211, 212, 213, 214] (by decide +kernel) (by decide +kernel)
set_option maxRecDepth 20000 in
theorem ggX14_passes_X14_devices_k6 : GoodIn wsX14_passes wsX140 := goodIn_r _ [239, 240, 241, 242, 243, 244, 245, 246, 247, 248, 249, 250, 251, 252] (by decide +kernel) (by decide +kernel)
set_option maxRecDepth 20000 in
theorem ggX14_passes_X14_devices_k7 : GoodIn wsX14_passes wsX100 := goodIn_r _ [267, 268, 269, 270] (by decide +kernel) (by decide +kernel)
set_option maxRecDepth 20000 in
theorem ggX14_passes_X14_devices_k8 : GoodIn wsX14_passes wsJx354110 := goodIn_r _ [275, 276, 277, 278] (by decide +kernel) (by decide +kernel)
set_option maxRecDepth 20000 in
theorem ggX14_passes_X14_devices_k9 : GoodIn wsX14_passes wsJx4a65c0 := goodIn_r _ [263, 264, 265] (by decide +kernel) (by decide +kernel)
set_option maxRecDepth 20000 in
theorem ggX14_passes_X14_devices_k10 : GoodIn wsX14_passes wsJ60 := goodIn_r _ [279] (by decide +kernel) (by decide +kernel)
set_option maxRecDepth 20000 in
theorem ggX14_passes_X14_devices : GoodIn wsX14_passes wsX14_devices := goodIn_cons1 ggX14_passes_X14_devices_k0 (goodIn_app (goodIn_app (goodIn_app (goodIn_app (goodIn_app (goodIn_app ggX14_passes_X14_devices_k1 (goodIn_app ggX14_passes_X14_devices_k2 (goodIn_app ggX14_passes_X14_devices_k3 (goodIn_app ggX14_passes_X14_devices_k4 ggX14_passes_X14_devices_k5)))) ggX14_passes_X14_devices_k6) ggX14_passes_X14_devices_k7) ggX14_passes_X14_devices_k8) ggX14_passes_X14_devices_k9) ggX14_passes_X14_devices_k10)
set_option maxRecDepth 20000 in
theorem gX14_passes_X14_devices : GoodIn wsX14_passes (wsV RX14 160 RX14 yX14_devices wsX14_devices) := goodIn_app (goodIn_of _ (by decide +kernel)) ggX14_passes_X14_devices
set_option maxRecDepth 20000 in
theorem ggX14_passes_Jx4a65c_size_8abf5 : GoodIn wsX14_passes wsJx4a65c_size_8abf5 := goodIn_r _ [31, 32, 263, 264, 265] (by decide +kernel) (by decide +kernel)
set_option maxRecDepth 20000 in
theorem gX14_passes_Jx4a65c_size_8abf5_f162Jx4a65c : GoodIn wsX14_passes (va_wsF RX14 162 RJx4a65c ⟨"java/util/List", "size", "()I"⟩ yJx4a65c_size_8abf5 wsJx4a65c_size_8abf5) := goodIn_app (goodIn_of _ (by decide +kernel)) ggX14_passes_Jx4a65c_size_8abf5
set_option maxRecDepth 20000 in
theorem ggX14_passes_Jx4a65c_iterator_32c93 : GoodIn wsX14_passes wsJx4a65c_iterator_32c93 := goodIn_r _ [145, 146, 147, 148, 149, 150, 151, 152, 153, 75, 76, 154, 155, 59, 156, 275, 276, 277, 278, 263, 264, 265] (by decide +kernel) (by decide +kernel)
set_option maxRecDepth 20000 in
theorem gX14_passes_Jx4a65c_iterator_32c93_f66Jx4a65c : GoodIn wsX14_passes (va_wsF RX14 66 RJx4a65c ⟨"java/util/List", "iterator", "()Ljava/util/Iterator;"⟩ yJx4a65c_iterator_32c93 wsJx4a65c_iterator_32c93) := goodIn_app (goodIn_of _ (by decide +kernel)) ggX14_passes_Jx4a65c_iterator_32c93
set_option maxRecDepth 20000 in
theorem ggX14_passes_Jx35411_hasNext_aae02 : GoodIn wsX14_passes wsJx35411_hasNext_aae02 := goodIn_r _ [160, 161, 152, 275, 276, 277, 278, 263, 264, 265] (by decide +kernel) (by decide +kernel)
set_option maxRecDepth 20000 in
theorem gX14_passes_Jx35411_hasNext_aae02_f70Jx35411 : GoodIn wsX14_passes (va_wsF RX14 70 RJx35411 ⟨"java/util/Iterator", "hasNext", "()Z"⟩ yJx35411_hasNext_aae02 wsJx35411_hasNext_aae02) := goodIn_app (goodIn_of _ (by decide +kernel)) ggX14_passes_Jx35411_hasNext_aae02
set_option maxRecDepth 20000 in
theorem ggX14_passes_X14_isDanger_k0 : GoodIn wsX14_passes [.code yX14_isDanger cX14_isDanger 4 (some .boolean)] := goodIn_r _ [230] (by decide +kernel) (by decide +kernel)
set_option maxRecDepth 20000 in
theorem ggX14_passes_X14_isDanger_k1 : GoodIn wsX14_passes wsX14_isDanger_r1 := goodIn_r _ [12, 13, 14, 1, 3, 11, 142, 143, 144, 30, 145, 146, 147, 148, 149, 150, 151, 152, 153, 75, 76, 154, 155, 59] (by decide +kernel) (by decide +kernel)
set_option maxRecDepth 20000 in
theorem ggX14_passes_X14_isDanger_k2 : GoodIn wsX14_passes wsX14_isDanger_r2 := goodIn_r _ [156, 157, 158, 159, 160, 161, 162, 163, 164, 165, 166, 167, 168, 169, 170, 33, 34, 35, 36, 32, 37, 38, 39, 40] (by decide +kernel) (by decide +kernel)
set_option maxRecDepth 20000 in
theorem ggX14_passes_X14_isDanger_k3 : GoodIn wsX14_passes wsX14_isDanger_r3 := goodIn_r _ [41, 42, 43, 44, 45, 46, 47, 48, 49, 186, 187, 188, 189, 190, 191] (by decide +kernel) (by decide +kernel)
set_option maxRecDepth 20000 in
theorem ggX14_passes_X14_isDanger_k4 : GoodIn wsX14_passes wsX140 := goodIn_r _ [239, 240, 241, 242, 243, 244, 245, 246, 247, 248, 249, 250, 251, 252] (by decide +kernel) (by decide +kernel)
set_option maxRecDepth 20000 in
theorem ggX14_passes_X14_isDanger_k5 : GoodIn wsX14_passes wsX120 := goodIn_r _ [256, 257, 258] (by decide +kernel) (by decide +kernel)
set_option maxRecDepth 20000 in
theorem ggX14_passes_X14_isDanger_k6 : GoodIn wsX14_passes wsJx354110 := goodIn_r _ [275, 276, 277, 278] (by decide +kernel) (by decide +kernel)
set_option maxRecDepth 20000 in
theorem ggX14_passes_X14_isDanger_k7 : GoodIn wsX14_passes wsJx4a65c0 := goodIn_r _ [263, 264, 265] (by decide +kernel) (by decide +kernel)
set_option maxRecDepth 20000 in
theorem ggX14_passes_X14_isDanger_k8 : GoodIn wsX14_passes wsJ60 := goodIn_r _ [279] (by decide +kernel) (by decide +kernel)
set_option maxRecDepth 20000 in
theorem ggX14_passes_X14_isDanger : GoodIn wsX14_passes wsX14_isDanger := goodIn_cons1 ggX14_passes_X14_isDanger_k0 (goodIn_app (goodIn_app (goodIn_app (goodIn_app (goodIn_app (goodIn_app ggX14_passes_X14_isDanger_k1 (goodIn_app ggX14_passes_X14_isDanger_k2 ggX14_passes_X14_isDanger_k3)) ggX14_passes_X14_isDanger_k4) ggX14_passes_X14_isDanger_k5) ggX14_passes_X14_isDanger_k6) ggX14_passes_X14_isDanger_k7) ggX14_passes_X14_isDanger_k8)
set_option maxRecDepth 20000 in
theorem gX14_passes_X14_isDanger : GoodIn wsX14_passes (wsV RX14 182 RX14 yX14_isDanger wsX14_isDanger) := goodIn_app (goodIn_of _ (by decide +kernel)) ggX14_passes_X14_isDanger
theorem dX14_passes_0 : decode cX14_passes 0 = .ok (.aload_n 0, 1) := by decide +kernel
theorem dX14_passes_1 : decode cX14_passes 1 = .ok (.invokevirtual 156, 3) := by decide +kernel
theorem dX14_passes_4 : decode cX14_passes 4 = .ok (.aload_n 0, 1) := by decide +kernel
theorem dX14_passes_5 : decode cX14_passes 5 = .ok (.invokevirtual 158, 3) := by decide +kernel
theorem dX14_passes_8 : decode cX14_passes 8 = .ok (.aload_n 0, 1) := by decide +kernel
theorem dX14_passes_9 : decode cX14_passes 9 = .ok (.invokevirtual 160, 3) := by decide +kernel
theorem dX14_passes_12 : decode cX14_passes 12 = .ok (.iconst 0, 1) := by decide +kernel
theorem dX14_passes_13 : decode cX14_passes 13 = .ok (.istore_n 1, 1) := by decide +kernel
theorem dX14_passes_14 : decode cX14_passes 14 = .ok (.iload_n 1, 1) := by decide +kernel
theorem dX14_passes_15 : decode cX14_passes 15 = .ok (.aload_n 0, 1) := by decide +kernel
theorem dX14_passes_16 : decode cX14_passes 16 = .ok (.getfield 12, 3) := by decide +kernel
theorem dX14_passes_19 : decode cX14_passes 19 = .ok (.invokeinterface 162 1, 5) := by decide +kernel
theorem dX14_passes_24 : decode cX14_passes 24 = .ok (.if_icmp .ge 54, 3) := by decide +kernel
theorem dX14_passes_78 : decode cX14_passes 78 = .ok (.aload_n 0, 1) := by decide +kernel
theorem dX14_passes_79 : decode cX14_passes 79 = .ok (.getfield 24, 3) := by decide +kernel
theorem dX14_passes_82 : decode cX14_passes 82 = .ok (.invokeinterface 66 1, 5) := by decide +kernel
theorem dX14_passes_87 : decode cX14_passes 87 = .ok (.astore_n 1, 1) := by decide +kernel
theorem dX14_passes_88 : decode cX14_passes 88 = .ok (.aload_n 1, 1) := by decide +kernel
theorem dX14_passes_89 : decode cX14_passes 89 = .ok (.invokeinterface 70 1, 5) := by decide +kernel
theorem dX14_passes_94 : decode cX14_passes 94 = .ok (.ifCond .eq 48, 3) := by decide +kernel
theorem dX14_passes_142 : decode cX14_passes 142 = .ok (.aload_n 0, 1) := by decide +kernel
theorem dX14_passes_143 : decode cX14_passes 143 = .ok (.getfield 30, 3) := by decide +kernel
theorem dX14_passes_146 : decode cX14_passes 146 = .ok (.invokeinterface 66 1, 5) := by decide +kernel
theorem dX14_passes_151 : decode cX14_passes 151 = .ok (.astore_n 1, 1) := by decide +kernel
theorem dX14_passes_152 : decode cX14_passes 152 = .ok (.aload_n 1, 1) := by decide +kernel
theorem dX14_passes_153 : decode cX14_passes 153 = .ok (.invokeinterface 70 1, 5) := by decide +kernel
theorem dX14_passes_158 : decode cX14_passes 158 = .ok (.ifCond .eq 29, 3) := by decide +kernel
theorem dX14_passes_187 : decode cX14_passes 187 = .ok (.aload_n 0, 1) := by decide +kernel
theorem dX14_passes_188 : decode cX14_passes 188 = .ok (.getfield 55, 3) := by decide +kernel
theorem dX14_passes_191 : decode cX14_passes 191 = .ok (.ifCond .ne 14, 3) := by decide +kernel
theorem dX14_passes_194 : decode cX14_passes 194 = .ok (.aload_n 0, 1) := by decide +kernel
theorem dX14_passes_195 : decode cX14_passes 195 = .ok (.invokevirtual 182, 3) := by decide +kernel
theorem dX14_passes_198 : decode cX14_passes 198 = .ok (.ifCond .eq 7, 3) := by decide +kernel
theorem dX14_passes_205 : decode cX14_passes 205 = .ok (.aload_n 0, 1) := by decide +kernel
theorem dX14_passes_206 : decode cX14_passes 206 = .ok (.dup, 1) := by decide +kernel
theorem dX14_passes_207 : decode cX14_passes 207 = .ok (.getfield 52, 3) := by decide +kernel
theorem dX14_passes_210 : decode cX14_passes 210 = .ok (.iconst 1, 1) := by decide +kernel
theorem dX14_passes_211 : decode cX14_passes 211 = .ok (.iadd, 1) := by decide +kernel
theorem dX14_passes_212 : decode cX14_passes 212 = .ok (.putfield 52, 3) := by decide +kernel
theorem dX14_passes_215 : decode cX14_passes 215 = .ok (.return_, 1) := by decide +kernel
set_option maxRecDepth 20000 in
theorem ggX14_commands_Jx4a65c_size_8abf5 : GoodIn wsX14_commands wsJx4a65c_size_8abf5 := goodIn_r _ [11, 12, 137, 138, 139] (by decide +kernel) (by decide +kernel)
set_option maxRecDepth 20000 in
theorem gX14_commands_Jx4a65c_size_8abf5_f162Jx4a65c : GoodIn wsX14_commands (va_wsF RX14 162 RJx4a65c ⟨"java/util/List", "size", "()I"⟩ yJx4a65c_size_8abf5 wsJx4a65c_size_8abf5) := goodIn_app (goodIn_of _ (by decide +kernel)) ggX14_commands_Jx4a65c_size_8abf5
theorem dX14_commands_0 : decode cX14_commands 0 = .ok (.aload_n 0, 1) := by decide +kernel
theorem dX14_commands_1 : decode cX14_commands 1 = .ok (.getfield 52, 3) := by decide +kernel
theorem dX14_commands_4 : decode cX14_commands 4 = .ok (.bipush 90, 2) := by decide +kernel
theorem dX14_commands_6 : decode cX14_commands 6 = .ok (.irem, 1) := by decide +kernel
theorem dX14_commands_7 : decode cX14_commands 7 = .ok (.bipush 10, 2) := by decide +kernel
theorem dX14_commands_9 : decode cX14_commands 9 = .ok (.if_icmp .lt 19, 3) := by decide +kernel
theorem dX14_commands_12 : decode cX14_commands 12 = .ok (.aload_n 0, 1) := by decide +kernel
theorem dX14_commands_13 : decode cX14_commands 13 = .ok (.getfield 52, 3) := by decide +kernel
theorem dX14_commands_16 : decode cX14_commands 16 = .ok (.bipush 90, 2) := by decide +kernel
theorem dX14_commands_18 : decode cX14_commands 18 = .ok (.irem, 1) := by decide +kernel
theorem dX14_commands_19 : decode cX14_commands 19 = .ok (.bipush 50, 2) := by decide +kernel
theorem dX14_commands_21 : decode cX14_commands 21 = .ok (.if_icmp .ge 7, 3) := by decide +kernel
theorem dX14_commands_24 : decode cX14_commands 24 = .ok (.iconst 1, 1) := by decide +kernel
theorem dX14_commands_25 : decode cX14_commands 25 = .ok (.goto 4, 3) := by decide +kernel
theorem dX14_commands_28 : decode cX14_commands 28 = .ok (.iconst 0, 1) := by decide +kernel
theorem dX14_commands_29 : decode cX14_commands 29 = .ok (.istore_n 1, 1) := by decide +kernel
theorem dX14_commands_30 : decode cX14_commands 30 = .ok (.iconst 0, 1) := by decide +kernel
theorem dX14_commands_31 : decode cX14_commands 31 = .ok (.istore_n 2, 1) := by decide +kernel
theorem dX14_commands_32 : decode cX14_commands 32 = .ok (.iload_n 2, 1) := by decide +kernel
theorem dX14_commands_33 : decode cX14_commands 33 = .ok (.aload_n 0, 1) := by decide +kernel
theorem dX14_commands_34 : decode cX14_commands 34 = .ok (.getfield 36, 3) := by decide +kernel
theorem dX14_commands_37 : decode cX14_commands 37 = .ok (.invokeinterface 162 1, 5) := by decide +kernel
theorem dX14_commands_42 : decode cX14_commands 42 = .ok (.if_icmp .ge 118, 3) := by decide +kernel
theorem dX14_commands_160 : decode cX14_commands 160 = .ok (.return_, 1) := by decide +kernel
set_option maxRecDepth 20000 in
theorem ggX14_ships_Jx4a65c_iterator_32c93 : GoodIn wsX14_ships wsJx4a65c_iterator_32c93 := goodIn_r _ [12, 13, 14, 15, 16, 17, 18, 19, 20, 21, 22, 23, 24, 25, 26, 125, 126, 127, 128, 129, 130, 131] (by decide +kernel) (by decide +kernel)
set_option maxRecDepth 20000 in
theorem gX14_ships_Jx4a65c_iterator_32c93_f66Jx4a65c : GoodIn wsX14_ships (va_wsF RX14 66 RJx4a65c ⟨"java/util/List", "iterator", "()Ljava/util/Iterator;"⟩ yJx4a65c_iterator_32c93 wsJx4a65c_iterator_32c93) := goodIn_app (goodIn_of _ (by decide +kernel)) ggX14_ships_Jx4a65c_iterator_32c93
set_option maxRecDepth 20000 in
theorem ggX14_ships_Jx35411_hasNext_aae02 : GoodIn wsX14_ships wsJx35411_hasNext_aae02 := goodIn_r _ [30, 31, 19, 125, 126, 127, 128, 129, 130, 131] (by decide +kernel) (by decide +kernel)
set_option maxRecDepth 20000 in
theorem gX14_ships_Jx35411_hasNext_aae02_f70Jx35411 : GoodIn wsX14_ships (va_wsF RX14 70 RJx35411 ⟨"java/util/Iterator", "hasNext", "()Z"⟩ yJx35411_hasNext_aae02 wsJx35411_hasNext_aae02) := goodIn_app (goodIn_of _ (by decide +kernel)) ggX14_ships_Jx35411_hasNext_aae02
theorem dX14_ships_0 : decode cX14_ships 0 = .ok (.aload_n 0, 1) := by decide +kernel
theorem dX14_ships_1 : decode cX14_ships 1 = .ok (.getfield 33, 3) := by decide +kernel
theorem dX14_ships_4 : decode cX14_ships 4 = .ok (.invokeinterface 66 1, 5) := by decide +kernel
theorem dX14_ships_9 : decode cX14_ships 9 = .ok (.astore_n 1, 1) := by decide +kernel
theorem dX14_ships_10 : decode cX14_ships 10 = .ok (.aload_n 1, 1) := by decide +kernel
theorem dX14_ships_11 : decode cX14_ships 11 = .ok (.invokeinterface 70 1, 5) := by decide +kernel
theorem dX14_ships_16 : decode cX14_ships 16 = .ok (.ifCond .eq 120, 3) := by decide +kernel
theorem dX14_ships_136 : decode cX14_ships 136 = .ok (.return_, 1) := by decide +kernel
set_option maxRecDepth 20000 in
theorem ggX14_devices_Jx4a65c_iterator_32c93 : GoodIn wsX14_devices wsJx4a65c_iterator_32c93 := goodIn_r _ [22, 23, 24, 25, 26, 27, 28, 29, 30, 31, 32, 33, 34, 35, 36, 123, 124, 125, 126, 127, 128, 129] (by decide +kernel) (by decide +kernel)
set_option maxRecDepth 20000 in
theorem gX14_devices_Jx4a65c_iterator_32c93_f66Jx4a65c : GoodIn wsX14_devices (va_wsF RX14 66 RJx4a65c ⟨"java/util/List", "iterator", "()Ljava/util/Iterator;"⟩ yJx4a65c_iterator_32c93 wsJx4a65c_iterator_32c93) := goodIn_app (goodIn_of _ (by decide +kernel)) ggX14_devices_Jx4a65c_iterator_32c93
set_option maxRecDepth 20000 in
theorem ggX14_devices_Jx35411_hasNext_aae02 : GoodIn wsX14_devices wsJx35411_hasNext_aae02 := goodIn_r _ [40, 41, 29, 123, 124, 125, 126, 127, 128, 129] (by decide +kernel) (by decide +kernel)
set_option maxRecDepth 20000 in
theorem gX14_devices_Jx35411_hasNext_aae02_f70Jx35411 : GoodIn wsX14_devices (va_wsF RX14 70 RJx35411 ⟨"java/util/Iterator", "hasNext", "()Z"⟩ yJx35411_hasNext_aae02 wsJx35411_hasNext_aae02) := goodIn_app (goodIn_of _ (by decide +kernel)) ggX14_devices_Jx35411_hasNext_aae02
theorem dX14_devices_0 : decode cX14_devices 0 = .ok (.aload_n 0, 1) := by decide +kernel
theorem dX14_devices_1 : decode cX14_devices 1 = .ok (.getfield 46, 3) := by decide +kernel
theorem dX14_devices_4 : decode cX14_devices 4 = .ok (.aload_n 0, 1) := by decide +kernel
theorem dX14_devices_5 : decode cX14_devices 5 = .ok (.getfield 52, 3) := by decide +kernel
theorem dX14_devices_8 : decode cX14_devices 8 = .ok (.bipush 90, 2) := by decide +kernel
theorem dX14_devices_10 : decode cX14_devices 10 = .ok (.irem, 1) := by decide +kernel
theorem dX14_devices_11 : decode cX14_devices 11 = .ok (.bipush 60, 2) := by decide +kernel
theorem dX14_devices_13 : decode cX14_devices 13 = .ok (.if_icmp .ge 10, 3) := by decide +kernel
theorem dX14_devices_16 : decode cX14_devices 16 = .ok (.aload_n 0, 1) := by decide +kernel
theorem dX14_devices_17 : decode cX14_devices 17 = .ok (.getfield 42, 3) := by decide +kernel
theorem dX14_devices_20 : decode cX14_devices 20 = .ok (.goto 4, 3) := by decide +kernel
theorem dX14_devices_23 : decode cX14_devices 23 = .ok (.iconst 0, 1) := by decide +kernel
theorem dX14_devices_24 : decode cX14_devices 24 = .ok (.iadd, 1) := by decide +kernel
theorem dX14_devices_25 : decode cX14_devices 25 = .ok (.istore_n 1, 1) := by decide +kernel
theorem dX14_devices_26 : decode cX14_devices 26 = .ok (.aload_n 0, 1) := by decide +kernel
theorem dX14_devices_27 : decode cX14_devices 27 = .ok (.getfield 27, 3) := by decide +kernel
theorem dX14_devices_30 : decode cX14_devices 30 = .ok (.invokeinterface 66 1, 5) := by decide +kernel
theorem dX14_devices_35 : decode cX14_devices 35 = .ok (.astore_n 2, 1) := by decide +kernel
theorem dX14_devices_36 : decode cX14_devices 36 = .ok (.aload_n 2, 1) := by decide +kernel
theorem dX14_devices_37 : decode cX14_devices 37 = .ok (.invokeinterface 70 1, 5) := by decide +kernel
theorem dX14_devices_42 : decode cX14_devices 42 = .ok (.ifCond .eq 137, 3) := by decide +kernel
theorem dX14_devices_179 : decode cX14_devices 179 = .ok (.aload_n 0, 1) := by decide +kernel
theorem dX14_devices_180 : decode cX14_devices 180 = .ok (.sipush 200, 3) := by decide +kernel
theorem dX14_devices_183 : decode cX14_devices 183 = .ok (.iload_n 1, 1) := by decide +kernel
theorem dX14_devices_184 : decode cX14_devices 184 = .ok (.invokestatic 165, 3) := by decide +kernel
theorem dX14_devices_187 : decode cX14_devices 187 = .ok (.putfield 46, 3) := by decide +kernel
theorem dX14_devices_190 : decode cX14_devices 190 = .ok (.return_, 1) := by decide +kernel
